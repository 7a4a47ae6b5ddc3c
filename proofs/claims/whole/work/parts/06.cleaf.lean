section
variable {l : Launch} {D : va_G} {cI cB cC cZ : ClassId} {ad : Nat → Nat}
noncomputable def f_Bytes_read  (b : Nat) (S : gw_S) (a1 : Int32) : Int32 × gw_S := (((S (b + 1) ((a1 &&& (1023 : Int32)) : Int32).toNatClampNeg), S))
set_option maxHeartbeats 4000000 in
set_option maxRecDepth 100000 in
theorem c_Bytes_read (hJ : gw_J 46 ad)  {b : Nat} (hb : b = 2 ∨ b = 7) (S : gw_S) (a1 : Int32) : gw_M l y_Bytes_read prog_2_method_2_code 2 (some .int) gTs (gw_rm 0) D gCl (gTys cI cB cC cZ) 46 ad (cE ad cI cB cC) gw_rI [.ref (ad b), .int a1] S (f_Bytes_read b S a1) := by
  refine gw_start gTs_ok (plainFor_of_name (by decide)) hJ (Nat.le_of_ble_eq_true rfl) (fun X A F => ?_)
  refine gw_lve (lv' := [(0, .ref (ad b)), (1, .int a1)]) rfl ?_
  unfold f_Bytes_read
  refine gw_aload_n (pc := 0) F 0 d_Bytes_read_0 rfl rfl ?_
  refine cg_Bytes_bytes (pc := 1) F hb tw_31 d_Bytes_read_1 ?_
  refine gw_iload_n (pc := 4) F 1 d_Bytes_read_4 rfl rfl ?_
  refine gw_sipush (pc := 5) (v := (1023 : Int32)) F d_Bytes_read_5 (by decide) ?_
  refine gw_iand (pc := 8) F d_Bytes_read_8 ?_
  refine cl_BArr (pc := 9) F hb (gw_and1023 _) d_Bytes_read_9 ?_
  exact gw_iret (pc := 10) F d_Bytes_read_10
theorem cb_read {b : Nat} (hb : b = 2 ∨ b = 7) (S : gw_S) (a1 : Int32) (h : cOK S) : vp_in (f_Bytes_read b S a1).1 256 := (h (b + 1) _).1 (by omega)
set_option maxHeartbeats 4000000 in
set_option maxRecDepth 100000 in
theorem po_ok_Bytes_read  {b : Nat} (hb : b = 2 ∨ b = 7) (S : gw_S) (a1 : Int32) (hf_ok : cOK S) : cOK (f_Bytes_read b S a1).2 := by
  unfold f_Bytes_read
  exact hf_ok
noncomputable def f_Bytes_readPair  (b : Nat) (S : gw_S) (a1 : Int32) : Int32 × gw_S := (gw_n (S (b + 1) ((a1 &&& (1023 : Int32)) : Int32).toNatClampNeg) fun v10 => (((v10 <<< ((8 : Int32) &&& 31)) ||| (S (b + 1) (((a1 + (1 : Int32)) &&& (1023 : Int32)) : Int32).toNatClampNeg)), S))
set_option maxHeartbeats 4000000 in
set_option maxRecDepth 100000 in
theorem c_Bytes_readPair (hJ : gw_J 46 ad)  {b : Nat} (hb : b = 2 ∨ b = 7) (S : gw_S) (a1 : Int32) : gw_M l y_Bytes_readPair prog_2_method_3_code 3 (some .int) gTs (gw_rm 0) D gCl (gTys cI cB cC cZ) 46 ad (cE ad cI cB cC) gw_rI [.ref (ad b), .int a1] S (f_Bytes_readPair b S a1) := by
  refine gw_start gTs_ok (plainFor_of_name (by decide)) hJ (Nat.le_of_ble_eq_true rfl) (fun X A F => ?_)
  refine gw_lve (lv' := [(0, .ref (ad b)), (1, .int a1)]) rfl ?_
  unfold f_Bytes_readPair
  refine gw_aload_n (pc := 0) F 0 d_Bytes_readPair_0 rfl rfl ?_
  refine cg_Bytes_bytes (pc := 1) F hb tw_31 d_Bytes_readPair_1 ?_
  refine gw_iload_n (pc := 4) F 1 d_Bytes_readPair_4 rfl rfl ?_
  refine gw_sipush (pc := 5) (v := (1023 : Int32)) F d_Bytes_readPair_5 (by decide) ?_
  refine gw_iand (pc := 8) F d_Bytes_readPair_8 ?_
  refine cl_BArr (pc := 9) F hb (gw_and1023 _) d_Bytes_readPair_9 ?_
  refine gw_nI (fun v10 e10 => ?_)
  refine gw_istore_n (pc := 10) (lv' := [(2, .int v10), (0, .ref (ad b)), (1, .int a1)]) F d_Bytes_readPair_10 rfl (by decide) rfl ?_
  refine gw_iload_n (pc := 11) F 0 d_Bytes_readPair_11 rfl rfl ?_
  refine gw_bipush (pc := 12) (v := (8 : Int32)) F d_Bytes_readPair_12 (by decide) ?_
  refine gw_ishl (pc := 14) F d_Bytes_readPair_14 ?_
  refine gw_aload_n (pc := 15) F 1 d_Bytes_readPair_15 rfl rfl ?_
  refine cg_Bytes_bytes (pc := 16) F hb tw_31 d_Bytes_readPair_16 ?_
  refine gw_iload_n (pc := 19) F 2 d_Bytes_readPair_19 rfl rfl ?_
  refine gw_iconst (pc := 20) (v := (1 : Int32)) F d_Bytes_readPair_20 (by decide) ?_
  refine gw_iadd (pc := 21) F d_Bytes_readPair_21 ?_
  refine gw_sipush (pc := 22) (v := (1023 : Int32)) F d_Bytes_readPair_22 (by decide) ?_
  refine gw_iand (pc := 25) F d_Bytes_readPair_25 ?_
  refine cl_BArr (pc := 26) F hb (gw_and1023 _) d_Bytes_readPair_26 ?_
  refine gw_ior (pc := 27) F d_Bytes_readPair_27 ?_
  exact gw_iret (pc := 28) F d_Bytes_readPair_28
set_option maxHeartbeats 4000000 in
set_option maxRecDepth 100000 in
theorem po_ok_Bytes_readPair  {b : Nat} (hb : b = 2 ∨ b = 7) (S : gw_S) (a1 : Int32) (hf_ok : cOK S) : cOK (f_Bytes_readPair b S a1).2 := by
  unfold f_Bytes_readPair
  refine po_n (Φ := fun p : Int32 × gw_S => cOK p.2) (fun v10 e10 => ?_)
  exact hf_ok
noncomputable def f_Bytes_write  (b : Nat) (S : gw_S) (a1 : Int32) (a2 : Int32) : Unit × gw_S := (gw_n (gw_u S (b + 1) ((a1 &&& (1023 : Int32)) : Int32).toNatClampNeg (a2 &&& (255 : Int32))) fun S14 => ((), S14))
set_option maxHeartbeats 4000000 in
set_option maxRecDepth 100000 in
theorem c_Bytes_write (hJ : gw_J 46 ad)  {b : Nat} (hb : b = 2 ∨ b = 7) (S : gw_S) (a1 : Int32) (a2 : Int32) : gw_M l y_Bytes_write prog_2_method_4_code 3 none gTs (gw_rm 0) D gCl (gTys cI cB cC cZ) 46 ad (cE ad cI cB cC) gw_rV [.ref (ad b), .int a1, .int a2] S (f_Bytes_write b S a1 a2) := by
  refine gw_start gTs_ok (plainFor_of_name (by decide)) hJ (Nat.le_of_ble_eq_true rfl) (fun X A F => ?_)
  refine gw_lve (lv' := [(0, .ref (ad b)), (1, .int a1), (2, .int a2)]) rfl ?_
  unfold f_Bytes_write
  refine gw_aload_n (pc := 0) F 0 d_Bytes_write_0 rfl rfl ?_
  refine cg_Bytes_bytes (pc := 1) F hb tw_31 d_Bytes_write_1 ?_
  refine gw_iload_n (pc := 4) F 1 d_Bytes_write_4 rfl rfl ?_
  refine gw_sipush (pc := 5) (v := (1023 : Int32)) F d_Bytes_write_5 (by decide) ?_
  refine gw_iand (pc := 8) F d_Bytes_write_8 ?_
  refine gw_iload_n (pc := 9) F 2 d_Bytes_write_9 rfl rfl ?_
  refine gw_sipush (pc := 10) (v := (255 : Int32)) F d_Bytes_write_10 (by decide) ?_
  refine gw_iand (pc := 13) F d_Bytes_write_13 ?_
  refine cs_BArr (pc := 14) F hb (gw_and1023 _) d_Bytes_write_14 ?_
  refine gw_nS (fun S14 E14 => ?_)
  exact gw_vret (pc := 15) F d_Bytes_write_15
set_option maxHeartbeats 4000000 in
set_option maxRecDepth 100000 in
theorem po_ok_Bytes_write  {b : Nat} (hb : b = 2 ∨ b = 7) (S : gw_S) (a1 : Int32) (a2 : Int32) (hf_ok : cOK S) : cOK (f_Bytes_write b S a1 a2).2 := by
  unfold f_Bytes_write
  refine po_n (Φ := fun p : Unit × gw_S => cOK p.2) (fun S14 E14 => ?_)
  exact (cOK_B hb E14 hf_ok (gw_and255 _))
noncomputable def f_Channel_isRunning  (j : Nat) (S : gw_S)  : Int32 × gw_S := (if (S (j + 14) 2) = (-1 : Int32) then (((0 : Int32), S)) else (if (S (j + 14) 3) = 0 then (((1 : Int32), S)) else (((0 : Int32), S))))
set_option maxHeartbeats 4000000 in
set_option maxRecDepth 100000 in
theorem c_Channel_isRunning (hJ : gw_J 46 ad)  {j : Nat} (hj : j < 16) (S : gw_S)  : gw_M l y_Channel_isRunning prog_3_method_2_code 1 (some .boolean) gTs (gw_rm 0) D gCl (gTys cI cB cC cZ) 46 ad (cE ad cI cB cC) gw_rI [.ref (ad (j + 14))] S (f_Channel_isRunning j S) := by
  refine gw_start gTs_ok (plainFor_of_name (by decide)) hJ (Nat.le_of_ble_eq_true rfl) (fun X A F => ?_)
  refine gw_lve (lv' := [(0, .ref (ad (j + 14)))]) rfl ?_
  unfold f_Channel_isRunning
  refine gw_aload_n (pc := 0) F 0 d_Channel_isRunning_0 rfl rfl ?_
  refine cg_Channel_address (pc := 1) F hj tw_107 d_Channel_isRunning_1 ?_
  refine gw_iconst (pc := 4) (v := (-1 : Int32)) F d_Channel_isRunning_4 (by decide) ?_
  refine gw_icmp_eqS (pc := 5) (tgt := 19) F d_Channel_isRunning_5 (by decide) (fun h5 => ?_) (fun h5 => ?_)
  · refine gw_iconst (pc := 19) (v := (0 : Int32)) F d_Channel_isRunning_19 (by decide) ?_
    exact gw_zret (pc := 20) F d_Channel_isRunning_20 rfl
  · refine gw_aload_n (pc := 8) F 0 d_Channel_isRunning_8 rfl rfl ?_
    refine cg_Channel_paused (pc := 9) F hj tw_110 d_Channel_isRunning_9 ?_
    refine gw_if_neS (pc := 12) (tgt := 19) F d_Channel_isRunning_12 (by decide) (fun h12 => ?_) (fun h12 => ?_)
    · refine gw_iconst (pc := 19) (v := (0 : Int32)) F d_Channel_isRunning_19 (by decide) ?_
      exact gw_zret (pc := 20) F d_Channel_isRunning_20 rfl
    · refine gw_iconst (pc := 15) (v := (1 : Int32)) F d_Channel_isRunning_15 (by decide) ?_
      refine gw_goto (pc := 16) (tgt := 20) F d_Channel_isRunning_16 (by decide) ?_
      exact gw_zret (pc := 20) F d_Channel_isRunning_20 rfl
set_option maxHeartbeats 4000000 in
set_option maxRecDepth 100000 in
theorem po_ok_Channel_isRunning  {j : Nat} (hj : j < 16) (S : gw_S)  (hf_ok : cOK S) : cOK (f_Channel_isRunning j S).2 := by
  unfold f_Channel_isRunning
  refine po_if (Φ := fun p : Int32 × gw_S => cOK p.2) (fun h5 => ?_) (fun h5 => ?_)
  · exact hf_ok
  · refine po_if (Φ := fun p : Int32 × gw_S => cOK p.2) (fun h12 => ?_) (fun h12 => ?_)
    · exact hf_ok
    · exact hf_ok
noncomputable def f_Channel_settleAsked  (j : Nat) (S : gw_S)  : Unit × gw_S := (if (S (j + 14) 5) = (-2 : Int32) then (if (S (j + 14) 6) = (-2 : Int32) then (((), S)) else (if (S (j + 14) 6) = (1 : Int32) then (gw_n (gw_u S (j + 14) 3 (1 : Int32)) fun S51 => gw_n (gw_u S51 (j + 14) 6 (-2 : Int32)) fun S57 => ((), S57)) else (gw_n (gw_u S (j + 14) 3 (0 : Int32)) fun S51 => gw_n (gw_u S51 (j + 14) 6 (-2 : Int32)) fun S57 => ((), S57)))) else (gw_n (gw_u S (j + 14) 2 (S (j + 14) 5)) fun S14 => gw_n (gw_u S14 (j + 14) 1 (0 : Int32)) fun S19 => gw_n (gw_u S19 (j + 14) 5 (-2 : Int32)) fun S25 => if (S25 (j + 14) 6) = (-2 : Int32) then (((), S25)) else (if (S25 (j + 14) 6) = (1 : Int32) then (gw_n (gw_u S25 (j + 14) 3 (1 : Int32)) fun S51 => gw_n (gw_u S51 (j + 14) 6 (-2 : Int32)) fun S57 => ((), S57)) else (gw_n (gw_u S25 (j + 14) 3 (0 : Int32)) fun S51 => gw_n (gw_u S51 (j + 14) 6 (-2 : Int32)) fun S57 => ((), S57)))))
set_option maxHeartbeats 4000000 in
set_option maxRecDepth 100000 in
theorem c_Channel_settleAsked (hJ : gw_J 46 ad)  {j : Nat} (hj : j < 16) (S : gw_S)  : gw_M l y_Channel_settleAsked prog_3_method_3_code 1 none gTs (gw_rm 0) D gCl (gTys cI cB cC cZ) 46 ad (cE ad cI cB cC) gw_rV [.ref (ad (j + 14))] S (f_Channel_settleAsked j S) := by
  refine gw_start gTs_ok (plainFor_of_name (by decide)) hJ (Nat.le_of_ble_eq_true rfl) (fun X A F => ?_)
  refine gw_lve (lv' := [(0, .ref (ad (j + 14)))]) rfl ?_
  unfold f_Channel_settleAsked
  refine gw_aload_n (pc := 0) F 0 d_Channel_settleAsked_0 rfl rfl ?_
  refine cg_Channel_askedAddress (pc := 1) F hj tw_115 d_Channel_settleAsked_1 ?_
  refine gw_bipush (pc := 4) (v := (-2 : Int32)) F d_Channel_settleAsked_4 (by decide) ?_
  refine gw_icmp_eqS (pc := 6) (tgt := 28) F d_Channel_settleAsked_6 (by decide) (fun h6 => ?_) (fun h6 => ?_)
  · refine gw_aload_n (pc := 28) F 0 d_Channel_settleAsked_28 rfl rfl ?_
    refine cg_Channel_askedPause (pc := 29) F hj tw_118 d_Channel_settleAsked_29 ?_
    refine gw_bipush (pc := 32) (v := (-2 : Int32)) F d_Channel_settleAsked_32 (by decide) ?_
    refine gw_icmp_eqS (pc := 34) (tgt := 60) F d_Channel_settleAsked_34 (by decide) (fun h34 => ?_) (fun h34 => ?_)
    · exact gw_vret (pc := 60) F d_Channel_settleAsked_60
    · refine gw_aload_n (pc := 37) F 0 d_Channel_settleAsked_37 rfl rfl ?_
      refine gw_aload_n (pc := 38) F 0 d_Channel_settleAsked_38 rfl rfl ?_
      refine cg_Channel_askedPause (pc := 39) F hj tw_118 d_Channel_settleAsked_39 ?_
      refine gw_iconst (pc := 42) (v := (1 : Int32)) F d_Channel_settleAsked_42 (by decide) ?_
      refine gw_icmp_neS (pc := 43) (tgt := 50) F d_Channel_settleAsked_43 (by decide) (fun h43 => ?_) (fun h43 => ?_)
      · refine gw_iconst (pc := 50) (v := (0 : Int32)) F d_Channel_settleAsked_50 (by decide) ?_
        refine cp_Channel_paused (pc := 51) F hj tw_110 d_Channel_settleAsked_51 rfl rfl ?_
        refine gw_nS (fun S51 E51 => ?_)
        refine gw_aload_n (pc := 54) F 0 d_Channel_settleAsked_54 rfl rfl ?_
        refine gw_bipush (pc := 55) (v := (-2 : Int32)) F d_Channel_settleAsked_55 (by decide) ?_
        refine cp_Channel_askedPause (pc := 57) F hj tw_118 d_Channel_settleAsked_57 ?_
        refine gw_nS (fun S57 E57 => ?_)
        exact gw_vret (pc := 60) F d_Channel_settleAsked_60
      · refine gw_iconst (pc := 46) (v := (1 : Int32)) F d_Channel_settleAsked_46 (by decide) ?_
        refine gw_goto (pc := 47) (tgt := 51) F d_Channel_settleAsked_47 (by decide) ?_
        refine cp_Channel_paused (pc := 51) F hj tw_110 d_Channel_settleAsked_51 rfl rfl ?_
        refine gw_nS (fun S51 E51 => ?_)
        refine gw_aload_n (pc := 54) F 0 d_Channel_settleAsked_54 rfl rfl ?_
        refine gw_bipush (pc := 55) (v := (-2 : Int32)) F d_Channel_settleAsked_55 (by decide) ?_
        refine cp_Channel_askedPause (pc := 57) F hj tw_118 d_Channel_settleAsked_57 ?_
        refine gw_nS (fun S57 E57 => ?_)
        exact gw_vret (pc := 60) F d_Channel_settleAsked_60
  · refine gw_aload_n (pc := 9) F 0 d_Channel_settleAsked_9 rfl rfl ?_
    refine gw_aload_n (pc := 10) F 0 d_Channel_settleAsked_10 rfl rfl ?_
    refine cg_Channel_askedAddress (pc := 11) F hj tw_115 d_Channel_settleAsked_11 ?_
    refine cp_Channel_address (pc := 14) F hj tw_107 d_Channel_settleAsked_14 ?_
    refine gw_nS (fun S14 E14 => ?_)
    refine gw_aload_n (pc := 17) F 0 d_Channel_settleAsked_17 rfl rfl ?_
    refine gw_iconst (pc := 18) (v := (0 : Int32)) F d_Channel_settleAsked_18 (by decide) ?_
    refine cp_Channel_returns (pc := 19) F hj tw_105 d_Channel_settleAsked_19 ?_
    refine gw_nS (fun S19 E19 => ?_)
    refine gw_aload_n (pc := 22) F 0 d_Channel_settleAsked_22 rfl rfl ?_
    refine gw_bipush (pc := 23) (v := (-2 : Int32)) F d_Channel_settleAsked_23 (by decide) ?_
    refine cp_Channel_askedAddress (pc := 25) F hj tw_115 d_Channel_settleAsked_25 ?_
    refine gw_nS (fun S25 E25 => ?_)
    refine gw_aload_n (pc := 28) F 0 d_Channel_settleAsked_28 rfl rfl ?_
    refine cg_Channel_askedPause (pc := 29) F hj tw_118 d_Channel_settleAsked_29 ?_
    refine gw_bipush (pc := 32) (v := (-2 : Int32)) F d_Channel_settleAsked_32 (by decide) ?_
    refine gw_icmp_eqS (pc := 34) (tgt := 60) F d_Channel_settleAsked_34 (by decide) (fun h34 => ?_) (fun h34 => ?_)
    · exact gw_vret (pc := 60) F d_Channel_settleAsked_60
    · refine gw_aload_n (pc := 37) F 0 d_Channel_settleAsked_37 rfl rfl ?_
      refine gw_aload_n (pc := 38) F 0 d_Channel_settleAsked_38 rfl rfl ?_
      refine cg_Channel_askedPause (pc := 39) F hj tw_118 d_Channel_settleAsked_39 ?_
      refine gw_iconst (pc := 42) (v := (1 : Int32)) F d_Channel_settleAsked_42 (by decide) ?_
      refine gw_icmp_neS (pc := 43) (tgt := 50) F d_Channel_settleAsked_43 (by decide) (fun h43 => ?_) (fun h43 => ?_)
      · refine gw_iconst (pc := 50) (v := (0 : Int32)) F d_Channel_settleAsked_50 (by decide) ?_
        refine cp_Channel_paused (pc := 51) F hj tw_110 d_Channel_settleAsked_51 rfl rfl ?_
        refine gw_nS (fun S51 E51 => ?_)
        refine gw_aload_n (pc := 54) F 0 d_Channel_settleAsked_54 rfl rfl ?_
        refine gw_bipush (pc := 55) (v := (-2 : Int32)) F d_Channel_settleAsked_55 (by decide) ?_
        refine cp_Channel_askedPause (pc := 57) F hj tw_118 d_Channel_settleAsked_57 ?_
        refine gw_nS (fun S57 E57 => ?_)
        exact gw_vret (pc := 60) F d_Channel_settleAsked_60
      · refine gw_iconst (pc := 46) (v := (1 : Int32)) F d_Channel_settleAsked_46 (by decide) ?_
        refine gw_goto (pc := 47) (tgt := 51) F d_Channel_settleAsked_47 (by decide) ?_
        refine cp_Channel_paused (pc := 51) F hj tw_110 d_Channel_settleAsked_51 rfl rfl ?_
        refine gw_nS (fun S51 E51 => ?_)
        refine gw_aload_n (pc := 54) F 0 d_Channel_settleAsked_54 rfl rfl ?_
        refine gw_bipush (pc := 55) (v := (-2 : Int32)) F d_Channel_settleAsked_55 (by decide) ?_
        refine cp_Channel_askedPause (pc := 57) F hj tw_118 d_Channel_settleAsked_57 ?_
        refine gw_nS (fun S57 E57 => ?_)
        exact gw_vret (pc := 60) F d_Channel_settleAsked_60
set_option maxHeartbeats 4000000 in
set_option maxRecDepth 100000 in
theorem po_ok_Channel_settleAsked  {j : Nat} (hj : j < 16) (S : gw_S)  (hf_ok : cOK S) : cOK (f_Channel_settleAsked j S).2 := by
  unfold f_Channel_settleAsked
  refine po_if (Φ := fun p : Unit × gw_S => cOK p.2) (fun h6 => ?_) (fun h6 => ?_)
  · refine po_if (Φ := fun p : Unit × gw_S => cOK p.2) (fun h34 => ?_) (fun h34 => ?_)
    · exact hf_ok
    · refine po_if (Φ := fun p : Unit × gw_S => cOK p.2) (fun h43 => ?_) (fun h43 => ?_)
      · refine po_n (Φ := fun p : Unit × gw_S => cOK p.2) (fun S51 E51 => ?_)
        refine po_n (Φ := fun p : Unit × gw_S => cOK p.2) (fun S57 E57 => ?_)
        exact (cOK_o E57 (cOK_o E51 hf_ok (by omega)) (by omega))
      · refine po_n (Φ := fun p : Unit × gw_S => cOK p.2) (fun S51 E51 => ?_)
        refine po_n (Φ := fun p : Unit × gw_S => cOK p.2) (fun S57 E57 => ?_)
        exact (cOK_o E57 (cOK_o E51 hf_ok (by omega)) (by omega))
  · refine po_n (Φ := fun p : Unit × gw_S => cOK p.2) (fun S14 E14 => ?_)
    refine po_n (Φ := fun p : Unit × gw_S => cOK p.2) (fun S19 E19 => ?_)
    refine po_n (Φ := fun p : Unit × gw_S => cOK p.2) (fun S25 E25 => ?_)
    refine po_if (Φ := fun p : Unit × gw_S => cOK p.2) (fun h34 => ?_) (fun h34 => ?_)
    · exact (cOK_o E25 (cOK_o E19 (cOK_o E14 hf_ok (by omega)) (by omega)) (by omega))
    · refine po_if (Φ := fun p : Unit × gw_S => cOK p.2) (fun h43 => ?_) (fun h43 => ?_)
      · refine po_n (Φ := fun p : Unit × gw_S => cOK p.2) (fun S51 E51 => ?_)
        refine po_n (Φ := fun p : Unit × gw_S => cOK p.2) (fun S57 E57 => ?_)
        exact (cOK_o E57 (cOK_o E51 (cOK_o E25 (cOK_o E19 (cOK_o E14 hf_ok (by omega)) (by omega)) (by omega)) (by omega)) (by omega))
      · refine po_n (Φ := fun p : Unit × gw_S => cOK p.2) (fun S51 E51 => ?_)
        refine po_n (Φ := fun p : Unit × gw_S => cOK p.2) (fun S57 E57 => ?_)
        exact (cOK_o E57 (cOK_o E51 (cOK_o E25 (cOK_o E19 (cOK_o E14 hf_ok (by omega)) (by omega)) (by omega)) (by omega)) (by omega))
noncomputable def f_Channel_pushReturn  (j : Nat) (S : gw_S) (a1 : Int32) : Int32 × gw_S := (if (S (j + 14) 1) < 0 then (((0 : Int32), S)) else (if (S (j + 14) 1) < (8 : Int32) then (gw_n (gw_u S (j + 30) ((S (j + 14) 1) : Int32).toNatClampNeg a1) fun S27 => gw_n (gw_u S27 (j + 14) 1 ((S27 (j + 14) 1) + (1 : Int32))) fun S35 => ((1 : Int32), S35)) else (((0 : Int32), S))))
set_option maxHeartbeats 4000000 in
set_option maxRecDepth 100000 in
theorem c_Channel_pushReturn (hJ : gw_J 46 ad)  {j : Nat} (hj : j < 16) (S : gw_S) (a1 : Int32) : gw_M l y_Channel_pushReturn prog_3_method_4_code 2 (some .boolean) gTs (gw_rm 0) D gCl (gTys cI cB cC cZ) 46 ad (cE ad cI cB cC) gw_rI [.ref (ad (j + 14)), .int a1] S (f_Channel_pushReturn j S a1) := by
  refine gw_start gTs_ok (plainFor_of_name (by decide)) hJ (Nat.le_of_ble_eq_true rfl) (fun X A F => ?_)
  refine gw_lve (lv' := [(0, .ref (ad (j + 14))), (1, .int a1)]) rfl ?_
  unfold f_Channel_pushReturn
  refine gw_aload_n (pc := 0) F 0 d_Channel_pushReturn_0 rfl rfl ?_
  refine cg_Channel_returns (pc := 1) F hj tw_105 d_Channel_pushReturn_1 ?_
  refine gw_if_ltS (pc := 4) (tgt := 16) F d_Channel_pushReturn_4 (by decide) (fun h4 => ?_) (fun h4 => ?_)
  · refine gw_iconst (pc := 16) (v := (0 : Int32)) F d_Channel_pushReturn_16 (by decide) ?_
    exact gw_zret (pc := 17) F d_Channel_pushReturn_17 rfl
  · refine gw_aload_n (pc := 7) F 0 d_Channel_pushReturn_7 rfl rfl ?_
    refine cg_Channel_returns (pc := 8) F hj tw_105 d_Channel_pushReturn_8 ?_
    refine gw_bipush (pc := 11) (v := (8 : Int32)) F d_Channel_pushReturn_11 (by decide) ?_
    refine gw_icmp_ltS (pc := 13) (tgt := 18) F d_Channel_pushReturn_13 (by decide) (fun h13 => ?_) (fun h13 => ?_)
    · refine gw_aload_n (pc := 18) F 0 d_Channel_pushReturn_18 rfl rfl ?_
      refine cg_Channel_pile (pc := 19) F hj tw_104 d_Channel_pushReturn_19 ?_
      refine gw_aload_n (pc := 22) F 0 d_Channel_pushReturn_22 rfl rfl ?_
      refine cg_Channel_returns (pc := 23) F hj tw_105 d_Channel_pushReturn_23 ?_
      refine gw_iload_n (pc := 26) F 1 d_Channel_pushReturn_26 rfl rfl ?_
      refine cs_Pile (pc := 27) F hj (gw_inC (N := 8) (b := 8) (by decide) h13 h4) d_Channel_pushReturn_27 ?_
      refine gw_nS (fun S27 E27 => ?_)
      refine gw_aload_n (pc := 28) F 0 d_Channel_pushReturn_28 rfl rfl ?_
      refine gw_dup (pc := 29) F d_Channel_pushReturn_29 rfl ?_
      refine cg_Channel_returns (pc := 30) F hj tw_105 d_Channel_pushReturn_30 ?_
      refine gw_iconst (pc := 33) (v := (1 : Int32)) F d_Channel_pushReturn_33 (by decide) ?_
      refine gw_iadd (pc := 34) F d_Channel_pushReturn_34 ?_
      refine cp_Channel_returns (pc := 35) F hj tw_105 d_Channel_pushReturn_35 ?_
      refine gw_nS (fun S35 E35 => ?_)
      refine gw_iconst (pc := 38) (v := (1 : Int32)) F d_Channel_pushReturn_38 (by decide) ?_
      exact gw_zret (pc := 39) F d_Channel_pushReturn_39 rfl
    · refine gw_iconst (pc := 16) (v := (0 : Int32)) F d_Channel_pushReturn_16 (by decide) ?_
      exact gw_zret (pc := 17) F d_Channel_pushReturn_17 rfl
set_option maxHeartbeats 4000000 in
set_option maxRecDepth 100000 in
theorem po_ok_Channel_pushReturn  {j : Nat} (hj : j < 16) (S : gw_S) (a1 : Int32) (hf_ok : cOK S) : cOK (f_Channel_pushReturn j S a1).2 := by
  unfold f_Channel_pushReturn
  refine po_if (Φ := fun p : Int32 × gw_S => cOK p.2) (fun h4 => ?_) (fun h4 => ?_)
  · exact hf_ok
  · refine po_if (Φ := fun p : Int32 × gw_S => cOK p.2) (fun h13 => ?_) (fun h13 => ?_)
    · refine po_n (Φ := fun p : Int32 × gw_S => cOK p.2) (fun S27 E27 => ?_)
      refine po_n (Φ := fun p : Int32 × gw_S => cOK p.2) (fun S35 E35 => ?_)
      exact (cOK_o E35 (cOK_o E27 hf_ok (by omega)) (by omega))
    · exact hf_ok
noncomputable def f_Channel_popReturn  (j : Nat) (S : gw_S)  : Int32 × gw_S := (if (S (j + 14) 1) < (1 : Int32) then (((-1 : Int32), S)) else (if (S (j + 14) 1) ≤ (8 : Int32) then (gw_n (gw_u S (j + 14) 1 ((S (j + 14) 1) - (1 : Int32))) fun S26 => ((S26 (j + 30) ((S26 (j + 14) 1) : Int32).toNatClampNeg), S26)) else (((-1 : Int32), S))))
set_option maxHeartbeats 4000000 in
set_option maxRecDepth 100000 in
theorem c_Channel_popReturn (hJ : gw_J 46 ad)  {j : Nat} (hj : j < 16) (S : gw_S)  : gw_M l y_Channel_popReturn prog_3_method_5_code 1 (some .int) gTs (gw_rm 0) D gCl (gTys cI cB cC cZ) 46 ad (cE ad cI cB cC) gw_rI [.ref (ad (j + 14))] S (f_Channel_popReturn j S) := by
  refine gw_start gTs_ok (plainFor_of_name (by decide)) hJ (Nat.le_of_ble_eq_true rfl) (fun X A F => ?_)
  refine gw_lve (lv' := [(0, .ref (ad (j + 14)))]) rfl ?_
  unfold f_Channel_popReturn
  refine gw_aload_n (pc := 0) F 0 d_Channel_popReturn_0 rfl rfl ?_
  refine cg_Channel_returns (pc := 1) F hj tw_105 d_Channel_popReturn_1 ?_
  refine gw_iconst (pc := 4) (v := (1 : Int32)) F d_Channel_popReturn_4 (by decide) ?_
  refine gw_icmp_ltS (pc := 5) (tgt := 17) F d_Channel_popReturn_5 (by decide) (fun h5 => ?_) (fun h5 => ?_)
  · refine gw_iconst (pc := 17) (v := (-1 : Int32)) F d_Channel_popReturn_17 (by decide) ?_
    exact gw_iret (pc := 18) F d_Channel_popReturn_18
  · refine gw_aload_n (pc := 8) F 0 d_Channel_popReturn_8 rfl rfl ?_
    refine cg_Channel_returns (pc := 9) F hj tw_105 d_Channel_popReturn_9 ?_
    refine gw_bipush (pc := 12) (v := (8 : Int32)) F d_Channel_popReturn_12 (by decide) ?_
    refine gw_icmp_leS (pc := 14) (tgt := 19) F d_Channel_popReturn_14 (by decide) (fun h14 => ?_) (fun h14 => ?_)
    · refine gw_aload_n (pc := 19) F 0 d_Channel_popReturn_19 rfl rfl ?_
      refine gw_dup (pc := 20) F d_Channel_popReturn_20 rfl ?_
      refine cg_Channel_returns (pc := 21) F hj tw_105 d_Channel_popReturn_21 ?_
      refine gw_iconst (pc := 24) (v := (1 : Int32)) F d_Channel_popReturn_24 (by decide) ?_
      refine gw_isub (pc := 25) F d_Channel_popReturn_25 ?_
      refine cp_Channel_returns (pc := 26) F hj tw_105 d_Channel_popReturn_26 ?_
      refine gw_nS (fun S26 E26 => ?_)
      refine gw_aload_n (pc := 29) F 0 d_Channel_popReturn_29 rfl rfl ?_
      refine cg_Channel_pile (pc := 30) F hj tw_104 d_Channel_popReturn_30 ?_
      refine gw_aload_n (pc := 33) F 0 d_Channel_popReturn_33 rfl rfl ?_
      refine cg_Channel_returns (pc := 34) F hj tw_105 d_Channel_popReturn_34 ?_
      refine cl_Pile (pc := 37) F hj (gw_popIn E26 h5 h14) d_Channel_popReturn_37 ?_
      exact gw_iret (pc := 38) F d_Channel_popReturn_38
    · refine gw_iconst (pc := 17) (v := (-1 : Int32)) F d_Channel_popReturn_17 (by decide) ?_
      exact gw_iret (pc := 18) F d_Channel_popReturn_18
set_option maxHeartbeats 4000000 in
set_option maxRecDepth 100000 in
theorem po_ok_Channel_popReturn  {j : Nat} (hj : j < 16) (S : gw_S)  (hf_ok : cOK S) : cOK (f_Channel_popReturn j S).2 := by
  unfold f_Channel_popReturn
  refine po_if (Φ := fun p : Int32 × gw_S => cOK p.2) (fun h5 => ?_) (fun h5 => ?_)
  · exact hf_ok
  · refine po_if (Φ := fun p : Int32 × gw_S => cOK p.2) (fun h14 => ?_) (fun h14 => ?_)
    · refine po_n (Φ := fun p : Int32 × gw_S => cOK p.2) (fun S26 E26 => ?_)
      exact (cOK_o E26 hf_ok (by omega))
    · exact hf_ok
noncomputable def f_Pages_pageOf   (S : gw_S) (a1 : Int32) : Int32 × gw_S := (if (128 : Int32) ≤ a1 then (if a1 = (254 : Int32) then (((S 9 2), S)) else (((S 9 1), S))) else (((a1 &&& (3 : Int32)), S)))
set_option maxHeartbeats 4000000 in
set_option maxRecDepth 100000 in
theorem c_Pages_pageOf (hJ : gw_J 46 ad)   (S : gw_S) (a1 : Int32) : gw_M l y_Pages_pageOf prog_4_method_2_code 2 (some .int) gTs (gw_rm 0) D gCl (gTys cI cB cC cZ) 46 ad (cE ad cI cB cC) gw_rI [.ref (ad 9), .int a1] S (f_Pages_pageOf S a1) := by
  refine gw_start gTs_ok (plainFor_of_name (by decide)) hJ (Nat.le_of_ble_eq_true rfl) (fun X A F => ?_)
  refine gw_lve (lv' := [(0, .ref (ad 9)), (1, .int a1)]) rfl ?_
  unfold f_Pages_pageOf
  refine gw_iload_n (pc := 0) F 1 d_Pages_pageOf_0 rfl rfl ?_
  refine gw_sipush (pc := 1) (v := (128 : Int32)) F d_Pages_pageOf_1 (by decide) ?_
  refine gw_icmp_geS (pc := 4) (tgt := 11) F d_Pages_pageOf_4 (by decide) (fun h4 => ?_) (fun h4 => ?_)
  · refine gw_iload_n (pc := 11) F 1 d_Pages_pageOf_11 rfl rfl ?_
    refine gw_sipush (pc := 12) (v := (254 : Int32)) F d_Pages_pageOf_12 (by decide) ?_
    refine gw_icmp_neS (pc := 15) (tgt := 25) F d_Pages_pageOf_15 (by decide) (fun h15 => ?_) (fun h15 => ?_)
    · refine gw_aload_n (pc := 25) F 0 d_Pages_pageOf_25 rfl rfl ?_
      refine cg_Pages_working (pc := 26) F tw_54 d_Pages_pageOf_26 ?_
      exact gw_iret (pc := 29) F d_Pages_pageOf_29
    · refine gw_aload_n (pc := 18) F 0 d_Pages_pageOf_18 rfl rfl ?_
      refine cg_Pages_shown (pc := 19) F tw_57 d_Pages_pageOf_19 ?_
      refine gw_goto (pc := 22) (tgt := 29) F d_Pages_pageOf_22 (by decide) ?_
      exact gw_iret (pc := 29) F d_Pages_pageOf_29
  · refine gw_iload_n (pc := 7) F 1 d_Pages_pageOf_7 rfl rfl ?_
    refine gw_iconst (pc := 8) (v := (3 : Int32)) F d_Pages_pageOf_8 (by decide) ?_
    refine gw_iand (pc := 9) F d_Pages_pageOf_9 ?_
    exact gw_iret (pc := 10) F d_Pages_pageOf_10
theorem cb_pageOf (S : gw_S) (a1 : Int32) (h : cOK S) : vp_in (f_Pages_pageOf S a1).1 4 := by
  unfold f_Pages_pageOf
  refine po_if (Φ := fun p : Int32 × gw_S => vp_in p.1 4) (fun _ => ?_) (fun _ => gw_and3 _)
  exact po_if (Φ := fun p : Int32 × gw_S => vp_in p.1 4) (fun _ => (h 9 2).2.2.1 rfl (Or.inr rfl)) (fun _ => (h 9 1).2.2.1 rfl (Or.inl rfl))
set_option maxHeartbeats 4000000 in
set_option maxRecDepth 100000 in
theorem po_ok_Pages_pageOf   (S : gw_S) (a1 : Int32) (hf_ok : cOK S) : cOK (f_Pages_pageOf S a1).2 := by
  unfold f_Pages_pageOf
  refine po_if (Φ := fun p : Int32 × gw_S => cOK p.2) (fun h4 => ?_) (fun h4 => ?_)
  · refine po_if (Φ := fun p : Int32 × gw_S => cOK p.2) (fun h15 => ?_) (fun h15 => ?_)
    · exact hf_ok
    · exact hf_ok
  · exact hf_ok
noncomputable def f_Pages_startOfRow   (S : gw_S) (a1 : Int32) : Int32 × gw_S := (((((S 9 1) * (2560 : Int32)) + (a1 * (64 : Int32))), S))
set_option maxHeartbeats 4000000 in
set_option maxRecDepth 100000 in
theorem c_Pages_startOfRow (hJ : gw_J 46 ad)   (S : gw_S) (a1 : Int32) : gw_M l y_Pages_startOfRow prog_4_method_6_code 2 (some .int) gTs (gw_rm 0) D gCl (gTys cI cB cC cZ) 46 ad (cE ad cI cB cC) gw_rI [.ref (ad 9), .int a1] S (f_Pages_startOfRow S a1) := by
  refine gw_start gTs_ok (plainFor_of_name (by decide)) hJ (Nat.le_of_ble_eq_true rfl) (fun X A F => ?_)
  refine gw_lve (lv' := [(0, .ref (ad 9)), (1, .int a1)]) rfl ?_
  unfold f_Pages_startOfRow
  refine gw_aload_n (pc := 0) F 0 d_Pages_startOfRow_0 rfl rfl ?_
  refine cg_Pages_working (pc := 1) F tw_54 d_Pages_startOfRow_1 ?_
  refine gw_sipush (pc := 4) (v := (2560 : Int32)) F d_Pages_startOfRow_4 (by decide) ?_
  refine gw_imul (pc := 7) F d_Pages_startOfRow_7 ?_
  refine gw_iload_n (pc := 8) F 1 d_Pages_startOfRow_8 rfl rfl ?_
  refine gw_bipush (pc := 9) (v := (64 : Int32)) F d_Pages_startOfRow_9 (by decide) ?_
  refine gw_imul (pc := 11) F d_Pages_startOfRow_11 ?_
  refine gw_iadd (pc := 12) F d_Pages_startOfRow_12 ?_
  exact gw_iret (pc := 13) F d_Pages_startOfRow_13
set_option maxHeartbeats 4000000 in
set_option maxRecDepth 100000 in
theorem po_ok_Pages_startOfRow   (S : gw_S) (a1 : Int32) (hf_ok : cOK S) : cOK (f_Pages_startOfRow S a1).2 := by
  unfold f_Pages_startOfRow
  exact hf_ok
noncomputable def f_Pages_colourAt   (S : gw_S) (a1 : Int32) (a2 : Int32) (a3 : Int32) : Int32 × gw_S := (((S 10 ((((a1 * (2560 : Int32)) + (a3 * (64 : Int32))) + a2) : Int32).toNatClampNeg), S))
set_option maxHeartbeats 4000000 in
set_option maxRecDepth 100000 in
theorem c_Pages_colourAt (hJ : gw_J 46 ad)   (S : gw_S) (a1 : Int32) (a2 : Int32) (a3 : Int32) (hb1 : vp_in a1 4) (hb2 : vp_in a2 64) (hb3 : vp_in a3 40) : gw_M l y_Pages_colourAt prog_4_method_3_code 4 (some .int) gTs (gw_rm 0) D gCl (gTys cI cB cC cZ) 46 ad (cE ad cI cB cC) gw_rI [.ref (ad 9), .int a1, .int a2, .int a3] S (f_Pages_colourAt S a1 a2 a3) := by
  refine gw_start gTs_ok (plainFor_of_name (by decide)) hJ (Nat.le_of_ble_eq_true rfl) (fun X A F => ?_)
  refine gw_lve (lv' := [(0, .ref (ad 9)), (1, .int a1), (2, .int a2), (3, .int a3)]) rfl ?_
  unfold f_Pages_colourAt
  refine gw_aload_n (pc := 0) F 0 d_Pages_colourAt_0 rfl rfl ?_
  refine cg_Pages_pixels (pc := 1) F tw_52 d_Pages_colourAt_1 ?_
  refine gw_iload_n (pc := 4) F 1 d_Pages_colourAt_4 rfl rfl ?_
  refine gw_sipush (pc := 5) (v := (2560 : Int32)) F d_Pages_colourAt_5 (by decide) ?_
  refine gw_imul (pc := 8) F d_Pages_colourAt_8 ?_
  refine gw_iload_n (pc := 9) F 3 d_Pages_colourAt_9 rfl rfl ?_
  refine gw_bipush (pc := 10) (v := (64 : Int32)) F d_Pages_colourAt_10 (by decide) ?_
  refine gw_imul (pc := 12) F d_Pages_colourAt_12 ?_
  refine gw_iadd (pc := 13) F d_Pages_colourAt_13 ?_
  refine gw_iload_n (pc := 14) F 2 d_Pages_colourAt_14 rfl rfl ?_
  refine gw_iadd (pc := 15) F d_Pages_colourAt_15 ?_
  refine cl_Pix (pc := 16) F (pg_ix hb1 hb2 hb3) d_Pages_colourAt_16 ?_
  exact gw_iret (pc := 17) F d_Pages_colourAt_17
set_option maxHeartbeats 4000000 in
set_option maxRecDepth 100000 in
theorem po_ok_Pages_colourAt   (S : gw_S) (a1 : Int32) (a2 : Int32) (a3 : Int32) (hf_ok : cOK S) (hb1 : vp_in a1 4) (hb2 : vp_in a2 64) (hb3 : vp_in a3 40) : cOK (f_Pages_colourAt S a1 a2 a3).2 := by
  unfold f_Pages_colourAt
  exact hf_ok
noncomputable def f_Painter_forgetCounts   (S : gw_S)  : Unit × gw_S := (gw_n (gw_u S 6 6 (0 : Int32)) fun S2 => gw_n (gw_u S2 6 7 (0 : Int32)) fun S7 => ((), S7))
set_option maxHeartbeats 4000000 in
set_option maxRecDepth 100000 in
theorem c_Painter_forgetCounts (hJ : gw_J 46 ad)   (S : gw_S)  : gw_M l y_Painter_forgetCounts prog_5_method_2_code 1 none gTs (gw_rm 0) D gCl (gTys cI cB cC cZ) 46 ad (cE ad cI cB cC) gw_rV [.ref (ad 6)] S (f_Painter_forgetCounts S) := by
  refine gw_start gTs_ok (plainFor_of_name (by decide)) hJ (Nat.le_of_ble_eq_true rfl) (fun X A F => ?_)
  refine gw_lve (lv' := [(0, .ref (ad 6))]) rfl ?_
  unfold f_Painter_forgetCounts
  refine gw_aload_n (pc := 0) F 0 d_Painter_forgetCounts_0 rfl rfl ?_
  refine gw_iconst (pc := 1) (v := (0 : Int32)) F d_Painter_forgetCounts_1 (by decide) ?_
  refine cp_Painter_begunInFrame (pc := 2) F tw_78 d_Painter_forgetCounts_2 ?_
  refine gw_nS (fun S2 E2 => ?_)
  refine gw_aload_n (pc := 5) F 0 d_Painter_forgetCounts_5 rfl rfl ?_
  refine gw_iconst (pc := 6) (v := (0 : Int32)) F d_Painter_forgetCounts_6 (by decide) ?_
  refine cp_Painter_rowsInFrame (pc := 7) F tw_80 d_Painter_forgetCounts_7 ?_
  refine gw_nS (fun S7 E7 => ?_)
  exact gw_vret (pc := 10) F d_Painter_forgetCounts_10
set_option maxHeartbeats 4000000 in
set_option maxRecDepth 100000 in
theorem po_ok_Painter_forgetCounts   (S : gw_S)  (hf_ok : cOK S) : cOK (f_Painter_forgetCounts S).2 := by
  unfold f_Painter_forgetCounts
  refine po_n (Φ := fun p : Unit × gw_S => cOK p.2) (fun S2 E2 => ?_)
  refine po_n (Φ := fun p : Unit × gw_S => cOK p.2) (fun S7 E7 => ?_)
  exact (cOK_o E7 (cOK_o E2 hf_ok (by omega)) (by omega))
noncomputable def f_Painter_edgeAt   (S : gw_S) (a1 : Int32) (a2 : Int64) (a3 : Int32) : Int32 × gw_S := (((((((((65536 : Int64) * ((a1 : Int32).toInt64)) + (32768 : Int64)) + (((a3 : Int32).toInt64) * a2)) >>> (((16 : Int32) : Int32).toInt64 &&& 63)) : Int64).toInt32), S))
set_option maxHeartbeats 4000000 in
set_option maxRecDepth 100000 in
theorem c_Painter_edgeAt (hJ : gw_J 46 ad)   (S : gw_S) (a1 : Int32) (a2 : Int64) (a3 : Int32) : gw_M l y_Painter_edgeAt prog_5_method_8_code 4 (some .int) gTs (gw_rm 0) D gCl (gTys cI cB cC cZ) 46 ad (cE ad cI cB cC) gw_rI [.int a1, .long a2, .int a3] S (f_Painter_edgeAt S a1 a2 a3) := by
  refine gw_start gTs_ok (plainFor_of_name (by decide)) hJ (Nat.le_of_ble_eq_true rfl) (fun X A F => ?_)
  refine gw_lve (lv' := [(0, .int a1), (1, .long a2), (3, .int a3)]) rfl ?_
  unfold f_Painter_edgeAt
  refine gw_ldc2 (pc := 0) (v := (65536 : Int64)) F tw_359 d_Painter_edgeAt_0 ?_
  refine gw_iload_n (pc := 3) F 0 d_Painter_edgeAt_3 rfl rfl ?_
  refine gw_i2l (pc := 4) F d_Painter_edgeAt_4 ?_
  refine gw_lmul (pc := 5) F d_Painter_edgeAt_5 ?_
  refine gw_ldc2 (pc := 6) (v := (32768 : Int64)) F tw_372 d_Painter_edgeAt_6 ?_
  refine gw_ladd (pc := 9) F d_Painter_edgeAt_9 ?_
  refine gw_iload_n (pc := 10) F 2 d_Painter_edgeAt_10 rfl rfl ?_
  refine gw_i2l (pc := 11) F d_Painter_edgeAt_11 ?_
  refine gw_lload_n (pc := 12) F 1 d_Painter_edgeAt_12 rfl rfl ?_
  refine gw_lmul (pc := 13) F d_Painter_edgeAt_13 ?_
  refine gw_ladd (pc := 14) F d_Painter_edgeAt_14 ?_
  refine gw_bipush (pc := 15) (v := (16 : Int32)) F d_Painter_edgeAt_15 (by decide) ?_
  refine gw_lshr (pc := 17) F d_Painter_edgeAt_17 ?_
  refine gw_l2i (pc := 18) F d_Painter_edgeAt_18 ?_
  exact gw_iret (pc := 19) F d_Painter_edgeAt_19
set_option maxHeartbeats 4000000 in
set_option maxRecDepth 100000 in
theorem po_ok_Painter_edgeAt   (S : gw_S) (a1 : Int32) (a2 : Int64) (a3 : Int32) (hf_ok : cOK S) : cOK (f_Painter_edgeAt S a1 a2 a3).2 := by
  unfold f_Painter_edgeAt
  exact hf_ok
noncomputable def f_Player_end   (S : gw_S)  : Unit × gw_S := (gw_n (gw_u S 1 4 (-1 : Int32)) fun S2 => gw_n (gw_u S2 1 5 (0 : Int32)) fun S7 => ((), S7))
set_option maxHeartbeats 4000000 in
set_option maxRecDepth 100000 in
theorem c_Player_end (hJ : gw_J 46 ad)   (S : gw_S)  : gw_M l y_Player_end prog_6_method_16_code 1 none gTs (gw_rm 0) D gCl (gTys cI cB cC cZ) 46 ad (cE ad cI cB cC) gw_rV [.ref (ad 1)] S (f_Player_end S) := by
  refine gw_start gTs_ok (plainFor_of_name (by decide)) hJ (Nat.le_of_ble_eq_true rfl) (fun X A F => ?_)
  refine gw_lve (lv' := [(0, .ref (ad 1))]) rfl ?_
  unfold f_Player_end
  refine gw_aload_n (pc := 0) F 0 d_Player_end_0 rfl rfl ?_
  refine gw_iconst (pc := 1) (v := (-1 : Int32)) F d_Player_end_1 (by decide) ?_
  refine cp_Player_at (pc := 2) F tw_143 d_Player_end_2 ?_
  refine gw_nS (fun S2 E2 => ?_)
  refine gw_aload_n (pc := 5) F 0 d_Player_end_5 rfl rfl ?_
  refine gw_iconst (pc := 6) (v := (0 : Int32)) F d_Player_end_6 (by decide) ?_
  refine cp_Player_goingOn (pc := 7) F tw_144 d_Player_end_7 rfl rfl ?_
  refine gw_nS (fun S7 E7 => ?_)
  exact gw_vret (pc := 10) F d_Player_end_10
set_option maxHeartbeats 4000000 in
set_option maxRecDepth 100000 in
theorem po_ok_Player_end   (S : gw_S)  (hf_ok : cOK S) : cOK (f_Player_end S).2 := by
  unfold f_Player_end
  refine po_n (Φ := fun p : Unit × gw_S => cOK p.2) (fun S2 E2 => ?_)
  refine po_n (Φ := fun p : Unit × gw_S => cOK p.2) (fun S7 E7 => ?_)
  exact (cOK_o E7 (cOK_o E2 hf_ok (by omega)) (by omega))
noncomputable def f_Player_store   (S : gw_S) (a1 : Int32) (a2 : Int32) : Unit × gw_S := (gw_n (gw_u S 4 (a1 : Int32).toNatClampNeg ((a2 : Int32).toInt16.toInt32)) fun S7 => ((), S7))
set_option maxHeartbeats 4000000 in
set_option maxRecDepth 100000 in
theorem c_Player_store (hJ : gw_J 46 ad)   (S : gw_S) (a1 : Int32) (a2 : Int32) (hb1 : vp_in a1 32) : gw_M l y_Player_store prog_6_method_17_code 3 none gTs (gw_rm 0) D gCl (gTys cI cB cC cZ) 46 ad (cE ad cI cB cC) gw_rV [.ref (ad 1), .int a1, .int a2] S (f_Player_store S a1 a2) := by
  refine gw_start gTs_ok (plainFor_of_name (by decide)) hJ (Nat.le_of_ble_eq_true rfl) (fun X A F => ?_)
  refine gw_lve (lv' := [(0, .ref (ad 1)), (1, .int a1), (2, .int a2)]) rfl ?_
  unfold f_Player_store
  refine gw_aload_n (pc := 0) F 0 d_Player_store_0 rfl rfl ?_
  refine cg_Player_variables (pc := 1) F tw_137 d_Player_store_1 ?_
  refine gw_iload_n (pc := 4) F 1 d_Player_store_4 rfl rfl ?_
  refine gw_iload_n (pc := 5) F 2 d_Player_store_5 rfl rfl ?_
  refine gw_i2s (pc := 6) F d_Player_store_6 ?_
  refine cs_Vars (pc := 7) F hb1 d_Player_store_7 ?_
  refine gw_nS (fun S7 E7 => ?_)
  exact gw_vret (pc := 8) F d_Player_store_8
set_option maxHeartbeats 4000000 in
set_option maxRecDepth 100000 in
theorem po_ok_Player_store   (S : gw_S) (a1 : Int32) (a2 : Int32) (hf_ok : cOK S) (hb1 : vp_in a1 32) : cOK (f_Player_store S a1 a2).2 := by
  unfold f_Player_store
  refine po_n (Φ := fun p : Unit × gw_S => cOK p.2) (fun S7 E7 => ?_)
  exact (cOK_v E7 hf_ok (cSh_w _))
noncomputable def f_Player_nextByte   (S : gw_S)  : Int32 × gw_S := (gw_b (f_Bytes_read 2 S (S 1 4)) fun r8 S8 => gw_n (gw_u S8 1 4 (((S8 1 4) + (1 : Int32)) &&& (1023 : Int32))) fun S23 => (r8, S23))
set_option maxHeartbeats 4000000 in
set_option maxRecDepth 100000 in
theorem c_Player_nextByte (hJ : gw_J 46 ad)   (S : gw_S)  : gw_M l y_Player_nextByte prog_6_method_18_code 2 (some .int) gTs (gw_rm 1) D gCl (gTys cI cB cC cZ) 46 ad (cE ad cI cB cC) gw_rI [.ref (ad 1)] S (f_Player_nextByte S) := by
  refine gw_start gTs_ok (plainFor_of_name (by decide)) hJ (Nat.le_of_ble_eq_true rfl) (fun X A F => ?_)
  refine gw_lve (lv' := [(0, .ref (ad 1))]) rfl ?_
  unfold f_Player_nextByte
  refine gw_aload_n (pc := 0) F 0 d_Player_nextByte_0 rfl rfl ?_
  refine cg_Player_program (pc := 1) F tw_135 d_Player_nextByte_1 ?_
  refine gw_aload_n (pc := 4) F 0 d_Player_nextByte_4 rfl rfl ?_
  refine cg_Player_at (pc := 5) F tw_143 d_Player_nextByte_5 ?_
  refine gw_cV (pc := 8) (As := [.int (S 1 4)]) (rest := []) F (c_Bytes_read (gw_FJ F) (Or.inl rfl) S (S 1 4)) cw_Bytes_read cv_Bytes_read tw_231 rfl (by decide) (by decide) (chi_Bytes (Or.inl rfl)) (cE_Bytes (Or.inl rfl)) rfl rfl rfl rfl (Nat.le_of_ble_eq_true rfl) d_Player_nextByte_8 (gw_bI (P := fun r U => True) trivial (fun r8 S8 p8 => ?_))
  refine gw_istore_n (pc := 11) (lv' := [(1, .int r8), (0, .ref (ad 1))]) F d_Player_nextByte_11 rfl (by decide) rfl ?_
  refine gw_aload_n (pc := 12) F 1 d_Player_nextByte_12 rfl rfl ?_
  refine gw_aload_n (pc := 13) F 1 d_Player_nextByte_13 rfl rfl ?_
  refine cg_Player_at (pc := 14) F tw_143 d_Player_nextByte_14 ?_
  refine gw_iconst (pc := 17) (v := (1 : Int32)) F d_Player_nextByte_17 (by decide) ?_
  refine gw_iadd (pc := 18) F d_Player_nextByte_18 ?_
  refine gw_sipush (pc := 19) (v := (1023 : Int32)) F d_Player_nextByte_19 (by decide) ?_
  refine gw_iand (pc := 22) F d_Player_nextByte_22 ?_
  refine cp_Player_at (pc := 23) F tw_143 d_Player_nextByte_23 ?_
  refine gw_nS (fun S23 E23 => ?_)
  refine gw_iload_n (pc := 26) F 0 d_Player_nextByte_26 rfl rfl ?_
  exact gw_iret (pc := 27) F d_Player_nextByte_27
set_option maxHeartbeats 4000000 in
set_option maxRecDepth 100000 in
theorem po_ok_Player_nextByte   (S : gw_S)  (hf_ok : cOK S) : cOK (f_Player_nextByte S).2 := by
  unfold f_Player_nextByte
  refine po_b (Φ := fun p : Int32 × gw_S => cOK p.2) (P := fun r U => cOK U ∧ vp_in r 256) ⟨(po_ok_Bytes_read (Or.inl rfl) S (S 1 4) hf_ok), (cb_read (Or.inl rfl) S (S 1 4) hf_ok)⟩ (fun r8 S8 p8 => ?_)
  refine po_n (Φ := fun p : Int32 × gw_S => cOK p.2) (fun S23 E23 => ?_)
  exact (cOK_o E23 p8.1 (by omega))
noncomputable def f_Player_nextPair   (S : gw_S)  : Int32 × gw_S := (gw_b (f_Bytes_readPair 2 S (S 1 4)) fun r8 S8 => gw_n (gw_u S8 1 4 (((S8 1 4) + (2 : Int32)) &&& (1023 : Int32))) fun S23 => (r8, S23))
set_option maxHeartbeats 4000000 in
set_option maxRecDepth 100000 in
theorem c_Player_nextPair (hJ : gw_J 46 ad)   (S : gw_S)  : gw_M l y_Player_nextPair prog_6_method_19_code 2 (some .int) gTs (gw_rm 1) D gCl (gTys cI cB cC cZ) 46 ad (cE ad cI cB cC) gw_rI [.ref (ad 1)] S (f_Player_nextPair S) := by
  refine gw_start gTs_ok (plainFor_of_name (by decide)) hJ (Nat.le_of_ble_eq_true rfl) (fun X A F => ?_)
  refine gw_lve (lv' := [(0, .ref (ad 1))]) rfl ?_
  unfold f_Player_nextPair
  refine gw_aload_n (pc := 0) F 0 d_Player_nextPair_0 rfl rfl ?_
  refine cg_Player_program (pc := 1) F tw_135 d_Player_nextPair_1 ?_
  refine gw_aload_n (pc := 4) F 0 d_Player_nextPair_4 rfl rfl ?_
  refine cg_Player_at (pc := 5) F tw_143 d_Player_nextPair_5 ?_
  refine gw_cV (pc := 8) (As := [.int (S 1 4)]) (rest := []) F (c_Bytes_readPair (gw_FJ F) (Or.inl rfl) S (S 1 4)) cw_Bytes_readPair cv_Bytes_readPair tw_248 rfl (by decide) (by decide) (chi_Bytes (Or.inl rfl)) (cE_Bytes (Or.inl rfl)) rfl rfl rfl rfl (Nat.le_of_ble_eq_true rfl) d_Player_nextPair_8 (gw_bI (P := fun r U => True) trivial (fun r8 S8 p8 => ?_))
  refine gw_istore_n (pc := 11) (lv' := [(1, .int r8), (0, .ref (ad 1))]) F d_Player_nextPair_11 rfl (by decide) rfl ?_
  refine gw_aload_n (pc := 12) F 1 d_Player_nextPair_12 rfl rfl ?_
  refine gw_aload_n (pc := 13) F 1 d_Player_nextPair_13 rfl rfl ?_
  refine cg_Player_at (pc := 14) F tw_143 d_Player_nextPair_14 ?_
  refine gw_iconst (pc := 17) (v := (2 : Int32)) F d_Player_nextPair_17 (by decide) ?_
  refine gw_iadd (pc := 18) F d_Player_nextPair_18 ?_
  refine gw_sipush (pc := 19) (v := (1023 : Int32)) F d_Player_nextPair_19 (by decide) ?_
  refine gw_iand (pc := 22) F d_Player_nextPair_22 ?_
  refine cp_Player_at (pc := 23) F tw_143 d_Player_nextPair_23 ?_
  refine gw_nS (fun S23 E23 => ?_)
  refine gw_iload_n (pc := 26) F 0 d_Player_nextPair_26 rfl rfl ?_
  exact gw_iret (pc := 27) F d_Player_nextPair_27
set_option maxHeartbeats 4000000 in
set_option maxRecDepth 100000 in
theorem po_ok_Player_nextPair   (S : gw_S)  (hf_ok : cOK S) : cOK (f_Player_nextPair S).2 := by
  unfold f_Player_nextPair
  refine po_b (Φ := fun p : Int32 × gw_S => cOK p.2) (P := fun r U => cOK U) (po_ok_Bytes_readPair (Or.inl rfl) S (S 1 4) hf_ok) (fun r8 S8 p8 => ?_)
  refine po_n (Φ := fun p : Int32 × gw_S => cOK p.2) (fun S23 E23 => ?_)
  exact (cOK_o E23 p8 (by omega))
noncomputable def f_Player_nextVariable   (S : gw_S)  : Int32 × gw_S := (gw_b (f_Player_nextByte S) fun r1 S1 => ((r1 &&& (31 : Int32)), S1))
set_option maxHeartbeats 4000000 in
set_option maxRecDepth 100000 in
theorem c_Player_nextVariable (hJ : gw_J 46 ad)   (S : gw_S)  : gw_M l y_Player_nextVariable prog_6_method_20_code 1 (some .int) gTs (gw_rm 2) D gCl (gTys cI cB cC cZ) 46 ad (cE ad cI cB cC) gw_rI [.ref (ad 1)] S (f_Player_nextVariable S) := by
  refine gw_start gTs_ok (plainFor_of_name (by decide)) hJ (Nat.le_of_ble_eq_true rfl) (fun X A F => ?_)
  refine gw_lve (lv' := [(0, .ref (ad 1))]) rfl ?_
  unfold f_Player_nextVariable
  refine gw_aload_n (pc := 0) F 0 d_Player_nextVariable_0 rfl rfl ?_
  refine gw_cV (pc := 1) (As := []) (rest := []) F (c_Player_nextByte (gw_FJ F) S) cw_Player_nextByte cv_Player_nextByte tw_227 rfl (by decide) (by decide) (by decide) cE_Player rfl rfl rfl rfl (Nat.le_of_ble_eq_true rfl) d_Player_nextVariable_1 (gw_bI (P := fun r U => True) trivial (fun r1 S1 p1 => ?_))
  refine gw_bipush (pc := 4) (v := (31 : Int32)) F d_Player_nextVariable_4 (by decide) ?_
  refine gw_iand (pc := 6) F d_Player_nextVariable_6 ?_
  exact gw_iret (pc := 7) F d_Player_nextVariable_7
theorem cb_nextVariable (S : gw_S) : vp_in (f_Player_nextVariable S).1 32 := gw_and31 _
set_option maxHeartbeats 4000000 in
set_option maxRecDepth 100000 in
theorem po_ok_Player_nextVariable   (S : gw_S)  (hf_ok : cOK S) : cOK (f_Player_nextVariable S).2 := by
  unfold f_Player_nextVariable
  refine po_b (Φ := fun p : Int32 × gw_S => cOK p.2) (P := fun r U => cOK U) (po_ok_Player_nextByte S hf_ok) (fun r1 S1 p1 => ?_)
  exact p1
noncomputable def f_Player_nextNumber   (S : gw_S)  : Int32 × gw_S := (gw_b (f_Player_nextPair S) fun r1 S1 => (((r1 : Int32).toInt16.toInt32), S1))
set_option maxHeartbeats 4000000 in
set_option maxRecDepth 100000 in
theorem c_Player_nextNumber (hJ : gw_J 46 ad)   (S : gw_S)  : gw_M l y_Player_nextNumber prog_6_method_21_code 1 (some .int) gTs (gw_rm 2) D gCl (gTys cI cB cC cZ) 46 ad (cE ad cI cB cC) gw_rI [.ref (ad 1)] S (f_Player_nextNumber S) := by
  refine gw_start gTs_ok (plainFor_of_name (by decide)) hJ (Nat.le_of_ble_eq_true rfl) (fun X A F => ?_)
  refine gw_lve (lv' := [(0, .ref (ad 1))]) rfl ?_
  unfold f_Player_nextNumber
  refine gw_aload_n (pc := 0) F 0 d_Player_nextNumber_0 rfl rfl ?_
  refine gw_cV (pc := 1) (As := []) (rest := []) F (c_Player_nextPair (gw_FJ F) S) cw_Player_nextPair cv_Player_nextPair tw_244 rfl (by decide) (by decide) (by decide) cE_Player rfl rfl rfl rfl (Nat.le_of_ble_eq_true rfl) d_Player_nextNumber_1 (gw_bI (P := fun r U => True) trivial (fun r1 S1 p1 => ?_))
  refine gw_i2s (pc := 4) F d_Player_nextNumber_4 ?_
  exact gw_iret (pc := 5) F d_Player_nextNumber_5
set_option maxHeartbeats 4000000 in
set_option maxRecDepth 100000 in
theorem po_ok_Player_nextNumber   (S : gw_S)  (hf_ok : cOK S) : cOK (f_Player_nextNumber S).2 := by
  unfold f_Player_nextNumber
  refine po_b (Φ := fun p : Int32 × gw_S => cOK p.2) (P := fun r U => cOK U) (po_ok_Player_nextPair S hf_ok) (fun r1 S1 p1 => ?_)
  exact p1
noncomputable def f_Player_nextAddress   (S : gw_S)  : Int32 × gw_S := (gw_b (f_Player_nextPair S) fun r1 S1 => ((r1 &&& (1023 : Int32)), S1))
set_option maxHeartbeats 4000000 in
set_option maxRecDepth 100000 in
theorem c_Player_nextAddress (hJ : gw_J 46 ad)   (S : gw_S)  : gw_M l y_Player_nextAddress prog_6_method_22_code 1 (some .int) gTs (gw_rm 2) D gCl (gTys cI cB cC cZ) 46 ad (cE ad cI cB cC) gw_rI [.ref (ad 1)] S (f_Player_nextAddress S) := by
  refine gw_start gTs_ok (plainFor_of_name (by decide)) hJ (Nat.le_of_ble_eq_true rfl) (fun X A F => ?_)
  refine gw_lve (lv' := [(0, .ref (ad 1))]) rfl ?_
  unfold f_Player_nextAddress
  refine gw_aload_n (pc := 0) F 0 d_Player_nextAddress_0 rfl rfl ?_
  refine gw_cV (pc := 1) (As := []) (rest := []) F (c_Player_nextPair (gw_FJ F) S) cw_Player_nextPair cv_Player_nextPair tw_244 rfl (by decide) (by decide) (by decide) cE_Player rfl rfl rfl rfl (Nat.le_of_ble_eq_true rfl) d_Player_nextAddress_1 (gw_bI (P := fun r U => True) trivial (fun r1 S1 p1 => ?_))
  refine gw_sipush (pc := 4) (v := (1023 : Int32)) F d_Player_nextAddress_4 (by decide) ?_
  refine gw_iand (pc := 7) F d_Player_nextAddress_7 ?_
  exact gw_iret (pc := 8) F d_Player_nextAddress_8
set_option maxHeartbeats 4000000 in
set_option maxRecDepth 100000 in
theorem po_ok_Player_nextAddress   (S : gw_S)  (hf_ok : cOK S) : cOK (f_Player_nextAddress S).2 := by
  unfold f_Player_nextAddress
  refine po_b (Φ := fun p : Int32 × gw_S => cOK p.2) (P := fun r U => cOK U) (po_ok_Player_nextPair S hf_ok) (fun r1 S1 p1 => ?_)
  exact p1
noncomputable def f_Player_fail  (j : Nat) (S : gw_S) (a2 : Int32) : Unit × gw_S := (gw_n (gw_u S (j + 14) 4 a2) fun S2 => gw_b (f_Player_end S2) fun _ S6 => ((), S6))
set_option maxHeartbeats 4000000 in
set_option maxRecDepth 100000 in
theorem c_Player_fail (hJ : gw_J 46 ad)  {j : Nat} (hj : j < 16) (S : gw_S) (a2 : Int32) : gw_M l y_Player_fail prog_6_method_15_code 3 none gTs (gw_rm 1) D gCl (gTys cI cB cC cZ) 46 ad (cE ad cI cB cC) gw_rV [.ref (ad 1), .ref (ad (j + 14)), .int a2] S (f_Player_fail j S a2) := by
  refine gw_start gTs_ok (plainFor_of_name (by decide)) hJ (Nat.le_of_ble_eq_true rfl) (fun X A F => ?_)
  refine gw_lve (lv' := [(0, .ref (ad 1)), (1, .ref (ad (j + 14))), (2, .int a2)]) rfl ?_
  unfold f_Player_fail
  refine gw_aload_n (pc := 0) F 1 d_Player_fail_0 rfl rfl ?_
  refine gw_iload_n (pc := 1) F 2 d_Player_fail_1 rfl rfl ?_
  refine cpN_Channel_latestFault (pc := 2) F hj tw_114 d_Player_fail_2 ?_
  refine gw_nS (fun S2 E2 => ?_)
  refine gw_aload_n (pc := 5) F 0 d_Player_fail_5 rfl rfl ?_
  refine gw_cV (pc := 6) (As := []) (rest := []) F (c_Player_end (gw_FJ F) S2) cw_Player_end cv_Player_end tw_272 rfl (by decide) (by decide) (by decide) cE_Player rfl rfl rfl rfl (Nat.le_of_ble_eq_true rfl) d_Player_fail_6 (gw_bV (P := fun _ U => True) trivial (fun _ S6 p6 => ?_))
  exact gw_vret (pc := 9) F d_Player_fail_9
set_option maxHeartbeats 4000000 in
set_option maxRecDepth 100000 in
theorem po_ok_Player_fail  {j : Nat} (hj : j < 16) (S : gw_S) (a2 : Int32) (hf_ok : cOK S) : cOK (f_Player_fail j S a2).2 := by
  unfold f_Player_fail
  refine po_n (Φ := fun p : Unit × gw_S => cOK p.2) (fun S2 E2 => ?_)
  refine po_b (Φ := fun p : Unit × gw_S => cOK p.2) (P := fun _ U => cOK U) (po_ok_Player_end S2 (cOK_o E2 hf_ok (by omega))) (fun _ S6 p6 => ?_)
  exact p6
noncomputable def f_Player_compares   (S : gw_S) (a1 : Int32) (a2 : Int32) (a3 : Int32) : Int32 × gw_S := (if a1 = 0 then (if a2 = a3 then (((1 : Int32), S)) else (((0 : Int32), S))) else (if a1 = 1 then (if a2 = a3 then (((0 : Int32), S)) else (((1 : Int32), S))) else (if a1 = 2 then (if a2 ≤ a3 then (((0 : Int32), S)) else (((1 : Int32), S))) else (if a1 = 3 then (if a2 < a3 then (((0 : Int32), S)) else (((1 : Int32), S))) else (if a1 = 4 then (if a3 ≤ a2 then (((0 : Int32), S)) else (((1 : Int32), S))) else (if a3 < a2 then (((0 : Int32), S)) else (((1 : Int32), S))))))))
set_option maxHeartbeats 4000000 in
set_option maxRecDepth 100000 in
theorem c_Player_compares (hJ : gw_J 46 ad)   (S : gw_S) (a1 : Int32) (a2 : Int32) (a3 : Int32) : gw_M l y_Player_compares prog_6_method_10_code 3 (some .boolean) gTs (gw_rm 0) D gCl (gTys cI cB cC cZ) 46 ad (cE ad cI cB cC) gw_rI [.int a1, .int a2, .int a3] S (f_Player_compares S a1 a2 a3) := by
  refine gw_start gTs_ok (plainFor_of_name (by decide)) hJ (Nat.le_of_ble_eq_true rfl) (fun X A F => ?_)
  refine gw_lve (lv' := [(0, .int a1), (1, .int a2), (2, .int a3)]) rfl ?_
  unfold f_Player_compares
  refine gw_iload_n (pc := 0) F 0 d_Player_compares_0 rfl rfl ?_
  refine gw_spl (fun h1_0 => ?_) (fun h1_0 => ?_)
  · refine gw_tableIn (pc := 1) (tgt := 36) F d_Player_compares_1 h1_0 (by decide) (by decide) rfl (by decide) ?_
    refine gw_iload_n (pc := 36) F 1 d_Player_compares_36 rfl rfl ?_
    refine gw_iload_n (pc := 37) F 2 d_Player_compares_37 rfl rfl ?_
    refine gw_icmp_neS (pc := 38) (tgt := 45) F d_Player_compares_38 (by decide) (fun h38 => ?_) (fun h38 => ?_)
    · refine gw_iconst (pc := 45) (v := (0 : Int32)) F d_Player_compares_45 (by decide) ?_
      exact gw_zret (pc := 46) F d_Player_compares_46 rfl
    · refine gw_iconst (pc := 41) (v := (1 : Int32)) F d_Player_compares_41 (by decide) ?_
      refine gw_goto (pc := 42) (tgt := 46) F d_Player_compares_42 (by decide) ?_
      exact gw_zret (pc := 46) F d_Player_compares_46 rfl
  refine gw_spl (fun h1_1 => ?_) (fun h1_1 => ?_)
  · refine gw_tableIn (pc := 1) (tgt := 47) F d_Player_compares_1 h1_1 (by decide) (by decide) rfl (by decide) ?_
    refine gw_iload_n (pc := 47) F 1 d_Player_compares_47 rfl rfl ?_
    refine gw_iload_n (pc := 48) F 2 d_Player_compares_48 rfl rfl ?_
    refine gw_icmp_eqS (pc := 49) (tgt := 56) F d_Player_compares_49 (by decide) (fun h49 => ?_) (fun h49 => ?_)
    · refine gw_iconst (pc := 56) (v := (0 : Int32)) F d_Player_compares_56 (by decide) ?_
      exact gw_zret (pc := 57) F d_Player_compares_57 rfl
    · refine gw_iconst (pc := 52) (v := (1 : Int32)) F d_Player_compares_52 (by decide) ?_
      refine gw_goto (pc := 53) (tgt := 57) F d_Player_compares_53 (by decide) ?_
      exact gw_zret (pc := 57) F d_Player_compares_57 rfl
  refine gw_spl (fun h1_2 => ?_) (fun h1_2 => ?_)
  · refine gw_tableIn (pc := 1) (tgt := 58) F d_Player_compares_1 h1_2 (by decide) (by decide) rfl (by decide) ?_
    refine gw_iload_n (pc := 58) F 1 d_Player_compares_58 rfl rfl ?_
    refine gw_iload_n (pc := 59) F 2 d_Player_compares_59 rfl rfl ?_
    refine gw_icmp_leS (pc := 60) (tgt := 67) F d_Player_compares_60 (by decide) (fun h60 => ?_) (fun h60 => ?_)
    · refine gw_iconst (pc := 67) (v := (0 : Int32)) F d_Player_compares_67 (by decide) ?_
      exact gw_zret (pc := 68) F d_Player_compares_68 rfl
    · refine gw_iconst (pc := 63) (v := (1 : Int32)) F d_Player_compares_63 (by decide) ?_
      refine gw_goto (pc := 64) (tgt := 68) F d_Player_compares_64 (by decide) ?_
      exact gw_zret (pc := 68) F d_Player_compares_68 rfl
  refine gw_spl (fun h1_3 => ?_) (fun h1_3 => ?_)
  · refine gw_tableIn (pc := 1) (tgt := 69) F d_Player_compares_1 h1_3 (by decide) (by decide) rfl (by decide) ?_
    refine gw_iload_n (pc := 69) F 1 d_Player_compares_69 rfl rfl ?_
    refine gw_iload_n (pc := 70) F 2 d_Player_compares_70 rfl rfl ?_
    refine gw_icmp_ltS (pc := 71) (tgt := 78) F d_Player_compares_71 (by decide) (fun h71 => ?_) (fun h71 => ?_)
    · refine gw_iconst (pc := 78) (v := (0 : Int32)) F d_Player_compares_78 (by decide) ?_
      exact gw_zret (pc := 79) F d_Player_compares_79 rfl
    · refine gw_iconst (pc := 74) (v := (1 : Int32)) F d_Player_compares_74 (by decide) ?_
      refine gw_goto (pc := 75) (tgt := 79) F d_Player_compares_75 (by decide) ?_
      exact gw_zret (pc := 79) F d_Player_compares_79 rfl
  refine gw_spl (fun h1_4 => ?_) (fun h1_4 => ?_)
  · refine gw_tableIn (pc := 1) (tgt := 80) F d_Player_compares_1 h1_4 (by decide) (by decide) rfl (by decide) ?_
    refine gw_iload_n (pc := 80) F 1 d_Player_compares_80 rfl rfl ?_
    refine gw_iload_n (pc := 81) F 2 d_Player_compares_81 rfl rfl ?_
    refine gw_icmp_geS (pc := 82) (tgt := 89) F d_Player_compares_82 (by decide) (fun h82 => ?_) (fun h82 => ?_)
    · refine gw_iconst (pc := 89) (v := (0 : Int32)) F d_Player_compares_89 (by decide) ?_
      exact gw_zret (pc := 90) F d_Player_compares_90 rfl
    · refine gw_iconst (pc := 85) (v := (1 : Int32)) F d_Player_compares_85 (by decide) ?_
      refine gw_goto (pc := 86) (tgt := 90) F d_Player_compares_86 (by decide) ?_
      exact gw_zret (pc := 90) F d_Player_compares_90 rfl
  refine gw_tableOut (pc := 1) (tgt := 91) F d_Player_compares_1 (by have ne_0 : ¬ (a1 : Int32).toInt = 0 := gw_ne h1_0; have ne_1 : ¬ (a1 : Int32).toInt = 1 := gw_ne h1_1; have ne_2 : ¬ (a1 : Int32).toInt = 2 := gw_ne h1_2; have ne_3 : ¬ (a1 : Int32).toInt = 3 := gw_ne h1_3; have ne_4 : ¬ (a1 : Int32).toInt = 4 := gw_ne h1_4; omega) (by decide) ?_
  refine gw_iload_n (pc := 91) F 1 d_Player_compares_91 rfl rfl ?_
  refine gw_iload_n (pc := 92) F 2 d_Player_compares_92 rfl rfl ?_
  refine gw_icmp_gtS (pc := 93) (tgt := 100) F d_Player_compares_93 (by decide) (fun h93 => ?_) (fun h93 => ?_)
  · refine gw_iconst (pc := 100) (v := (0 : Int32)) F d_Player_compares_100 (by decide) ?_
    exact gw_zret (pc := 101) F d_Player_compares_101 rfl
  · refine gw_iconst (pc := 96) (v := (1 : Int32)) F d_Player_compares_96 (by decide) ?_
    refine gw_goto (pc := 97) (tgt := 101) F d_Player_compares_97 (by decide) ?_
    exact gw_zret (pc := 101) F d_Player_compares_101 rfl
set_option maxHeartbeats 4000000 in
set_option maxRecDepth 100000 in
theorem po_ok_Player_compares   (S : gw_S) (a1 : Int32) (a2 : Int32) (a3 : Int32) (hf_ok : cOK S) : cOK (f_Player_compares S a1 a2 a3).2 := by
  unfold f_Player_compares
  refine po_if (Φ := fun p : Int32 × gw_S => cOK p.2) (fun h1_0 => ?_) (fun h1_0 => ?_)
  · refine po_if (Φ := fun p : Int32 × gw_S => cOK p.2) (fun h38 => ?_) (fun h38 => ?_)
    · exact hf_ok
    · exact hf_ok
  refine po_if (Φ := fun p : Int32 × gw_S => cOK p.2) (fun h1_1 => ?_) (fun h1_1 => ?_)
  · refine po_if (Φ := fun p : Int32 × gw_S => cOK p.2) (fun h49 => ?_) (fun h49 => ?_)
    · exact hf_ok
    · exact hf_ok
  refine po_if (Φ := fun p : Int32 × gw_S => cOK p.2) (fun h1_2 => ?_) (fun h1_2 => ?_)
  · refine po_if (Φ := fun p : Int32 × gw_S => cOK p.2) (fun h60 => ?_) (fun h60 => ?_)
    · exact hf_ok
    · exact hf_ok
  refine po_if (Φ := fun p : Int32 × gw_S => cOK p.2) (fun h1_3 => ?_) (fun h1_3 => ?_)
  · refine po_if (Φ := fun p : Int32 × gw_S => cOK p.2) (fun h71 => ?_) (fun h71 => ?_)
    · exact hf_ok
    · exact hf_ok
  refine po_if (Φ := fun p : Int32 × gw_S => cOK p.2) (fun h1_4 => ?_) (fun h1_4 => ?_)
  · refine po_if (Φ := fun p : Int32 × gw_S => cOK p.2) (fun h82 => ?_) (fun h82 => ?_)
    · exact hf_ok
    · exact hf_ok
  refine po_if (Φ := fun p : Int32 × gw_S => cOK p.2) (fun h93 => ?_) (fun h93 => ?_)
  · exact hf_ok
  · exact hf_ok
noncomputable def f_Player_callAddress  (j : Nat) (S : gw_S)  : Unit × gw_S := (gw_b (f_Player_nextAddress S) fun r1 S1 => gw_b (f_Channel_pushReturn j S1 (S1 1 4)) fun r10 S10 => if r10 = 0 then (gw_b (f_Player_fail j S10 (1 : Int32)) fun _ S27 => ((), S27)) else (gw_n (gw_u S10 1 4 r1) fun S18 => ((), S18)))
set_option maxHeartbeats 4000000 in
set_option maxRecDepth 100000 in
theorem c_Player_callAddress (hJ : gw_J 46 ad)  {j : Nat} (hj : j < 16) (S : gw_S)  : gw_M l y_Player_callAddress prog_6_method_5_code 3 none gTs (gw_rm 3) D gCl (gTys cI cB cC cZ) 46 ad (cE ad cI cB cC) gw_rV [.ref (ad 1), .ref (ad (j + 14))] S (f_Player_callAddress j S) := by
  refine gw_start gTs_ok (plainFor_of_name (by decide)) hJ (Nat.le_of_ble_eq_true rfl) (fun X A F => ?_)
  refine gw_lve (lv' := [(0, .ref (ad 1)), (1, .ref (ad (j + 14)))]) rfl ?_
  unfold f_Player_callAddress
  refine gw_aload_n (pc := 0) F 0 d_Player_callAddress_0 rfl rfl ?_
  refine gw_cV (pc := 1) (As := []) (rest := []) F (c_Player_nextAddress (gw_FJ F) S) cw_Player_nextAddress cv_Player_nextAddress tw_256 rfl (by decide) (by decide) (by decide) cE_Player rfl rfl rfl rfl (Nat.le_of_ble_eq_true rfl) d_Player_callAddress_1 (gw_bI (P := fun r U => True) trivial (fun r1 S1 p1 => ?_))
  refine gw_istore_n (pc := 4) (lv' := [(2, .int r1), (0, .ref (ad 1)), (1, .ref (ad (j + 14)))]) F d_Player_callAddress_4 rfl (by decide) rfl ?_
  refine gw_aload_n (pc := 5) F 2 d_Player_callAddress_5 rfl rfl ?_
  refine gw_aload_n (pc := 6) F 1 d_Player_callAddress_6 rfl rfl ?_
  refine cg_Player_at (pc := 7) F tw_143 d_Player_callAddress_7 ?_
  refine gw_cV (pc := 10) (As := [.int (S1 1 4)]) (rest := []) F (c_Channel_pushReturn (gw_FJ F) hj S1 (S1 1 4)) cw_Channel_pushReturn cv_Channel_pushReturn tw_264 rfl (by decide) (by decide) (chi_Channel hj) (cE_Channel hj) rfl rfl rfl rfl (Nat.le_of_ble_eq_true rfl) d_Player_callAddress_10 (gw_bI (P := fun r U => True) trivial (fun r10 S10 p10 => ?_))
  refine gw_if_eqS (pc := 13) (tgt := 24) F d_Player_callAddress_13 (by decide) (fun h13 => ?_) (fun h13 => ?_)
  · refine gw_aload_n (pc := 24) F 1 d_Player_callAddress_24 rfl rfl ?_
    refine gw_aload_n (pc := 25) F 2 d_Player_callAddress_25 rfl rfl ?_
    refine gw_iconst (pc := 26) (v := (1 : Int32)) F d_Player_callAddress_26 (by decide) ?_
    refine gw_cV (pc := 27) (As := [.ref (ad (j + 14)), .int (1 : Int32)]) (rest := []) F (c_Player_fail (gw_FJ F) hj S10 (1 : Int32)) cw_Player_fail cv_Player_fail tw_268 rfl (by decide) (by decide) (by decide) cE_Player rfl rfl rfl rfl (Nat.le_of_ble_eq_true rfl) d_Player_callAddress_27 (gw_bV (P := fun _ U => True) trivial (fun _ S27 p27 => ?_))
    exact gw_vret (pc := 30) F d_Player_callAddress_30
  · refine gw_aload_n (pc := 16) F 1 d_Player_callAddress_16 rfl rfl ?_
    refine gw_iload_n (pc := 17) F 0 d_Player_callAddress_17 rfl rfl ?_
    refine cp_Player_at (pc := 18) F tw_143 d_Player_callAddress_18 ?_
    refine gw_nS (fun S18 E18 => ?_)
    refine gw_goto (pc := 21) (tgt := 30) F d_Player_callAddress_21 (by decide) ?_
    exact gw_vret (pc := 30) F d_Player_callAddress_30
set_option maxHeartbeats 4000000 in
set_option maxRecDepth 100000 in
theorem po_ok_Player_callAddress  {j : Nat} (hj : j < 16) (S : gw_S)  (hf_ok : cOK S) : cOK (f_Player_callAddress j S).2 := by
  unfold f_Player_callAddress
  refine po_b (Φ := fun p : Unit × gw_S => cOK p.2) (P := fun r U => cOK U) (po_ok_Player_nextAddress S hf_ok) (fun r1 S1 p1 => ?_)
  refine po_b (Φ := fun p : Unit × gw_S => cOK p.2) (P := fun r U => cOK U) (po_ok_Channel_pushReturn hj S1 (S1 1 4) p1) (fun r10 S10 p10 => ?_)
  refine po_if (Φ := fun p : Unit × gw_S => cOK p.2) (fun h13 => ?_) (fun h13 => ?_)
  · refine po_b (Φ := fun p : Unit × gw_S => cOK p.2) (P := fun _ U => cOK U) (po_ok_Player_fail hj S10 (1 : Int32) p10) (fun _ S27 p27 => ?_)
    exact p27
  · refine po_n (Φ := fun p : Unit × gw_S => cOK p.2) (fun S18 E18 => ?_)
    exact (cOK_o E18 p10 (by omega))
noncomputable def f_Player_comeBack  (j : Nat) (S : gw_S)  : Unit × gw_S := (gw_b (f_Channel_popReturn j S) fun r1 S1 => if r1 = (-1 : Int32) then (gw_b (f_Player_fail j S1 (2 : Int32)) fun _ S13 => ((), S13)) else (gw_n (gw_u S1 1 4 r1) fun S21 => ((), S21)))
set_option maxHeartbeats 4000000 in
set_option maxRecDepth 100000 in
theorem c_Player_comeBack (hJ : gw_J 46 ad)  {j : Nat} (hj : j < 16) (S : gw_S)  : gw_M l y_Player_comeBack prog_6_method_6_code 3 none gTs (gw_rm 2) D gCl (gTys cI cB cC cZ) 46 ad (cE ad cI cB cC) gw_rV [.ref (ad 1), .ref (ad (j + 14))] S (f_Player_comeBack j S) := by
  refine gw_start gTs_ok (plainFor_of_name (by decide)) hJ (Nat.le_of_ble_eq_true rfl) (fun X A F => ?_)
  refine gw_lve (lv' := [(0, .ref (ad 1)), (1, .ref (ad (j + 14)))]) rfl ?_
  unfold f_Player_comeBack
  refine gw_aload_n (pc := 0) F 1 d_Player_comeBack_0 rfl rfl ?_
  refine gw_cV (pc := 1) (As := []) (rest := []) F (c_Channel_popReturn (gw_FJ F) hj S) cw_Channel_popReturn cv_Channel_popReturn tw_280 rfl (by decide) (by decide) (chi_Channel hj) (cE_Channel hj) rfl rfl rfl rfl (Nat.le_of_ble_eq_true rfl) d_Player_comeBack_1 (gw_bI (P := fun r U => True) trivial (fun r1 S1 p1 => ?_))
  refine gw_istore_n (pc := 4) (lv' := [(2, .int r1), (0, .ref (ad 1)), (1, .ref (ad (j + 14)))]) F d_Player_comeBack_4 rfl (by decide) rfl ?_
  refine gw_iload_n (pc := 5) F 0 d_Player_comeBack_5 rfl rfl ?_
  refine gw_iconst (pc := 6) (v := (-1 : Int32)) F d_Player_comeBack_6 (by decide) ?_
  refine gw_icmp_neS (pc := 7) (tgt := 19) F d_Player_comeBack_7 (by decide) (fun h7 => ?_) (fun h7 => ?_)
  · refine gw_aload_n (pc := 19) F 1 d_Player_comeBack_19 rfl rfl ?_
    refine gw_iload_n (pc := 20) F 0 d_Player_comeBack_20 rfl rfl ?_
    refine cp_Player_at (pc := 21) F tw_143 d_Player_comeBack_21 ?_
    refine gw_nS (fun S21 E21 => ?_)
    exact gw_vret (pc := 24) F d_Player_comeBack_24
  · refine gw_aload_n (pc := 10) F 1 d_Player_comeBack_10 rfl rfl ?_
    refine gw_aload_n (pc := 11) F 2 d_Player_comeBack_11 rfl rfl ?_
    refine gw_iconst (pc := 12) (v := (2 : Int32)) F d_Player_comeBack_12 (by decide) ?_
    refine gw_cV (pc := 13) (As := [.ref (ad (j + 14)), .int (2 : Int32)]) (rest := []) F (c_Player_fail (gw_FJ F) hj S1 (2 : Int32)) cw_Player_fail cv_Player_fail tw_268 rfl (by decide) (by decide) (by decide) cE_Player rfl rfl rfl rfl (Nat.le_of_ble_eq_true rfl) d_Player_comeBack_13 (gw_bV (P := fun _ U => True) trivial (fun _ S13 p13 => ?_))
    refine gw_goto (pc := 16) (tgt := 24) F d_Player_comeBack_16 (by decide) ?_
    exact gw_vret (pc := 24) F d_Player_comeBack_24
set_option maxHeartbeats 4000000 in
set_option maxRecDepth 100000 in
theorem po_ok_Player_comeBack  {j : Nat} (hj : j < 16) (S : gw_S)  (hf_ok : cOK S) : cOK (f_Player_comeBack j S).2 := by
  unfold f_Player_comeBack
  refine po_b (Φ := fun p : Unit × gw_S => cOK p.2) (P := fun r U => cOK U) (po_ok_Channel_popReturn hj S hf_ok) (fun r1 S1 p1 => ?_)
  refine po_if (Φ := fun p : Unit × gw_S => cOK p.2) (fun h7 => ?_) (fun h7 => ?_)
  · refine po_b (Φ := fun p : Unit × gw_S => cOK p.2) (P := fun _ U => cOK U) (po_ok_Player_fail hj S1 (2 : Int32) p1) (fun _ S13 p13 => ?_)
    exact p13
  · refine po_n (Φ := fun p : Unit × gw_S => cOK p.2) (fun S21 E21 => ?_)
    exact (cOK_o E21 p1 (by omega))
noncomputable def f_Player_loop   (S : gw_S)  : Unit × gw_S := (gw_b (f_Player_nextVariable S) fun r1 S1 => gw_b (f_Player_nextAddress S1) fun r6 S6 => gw_b (f_Player_store S6 r1 ((S6 4 (r1 : Int32).toNatClampNeg) - (1 : Int32))) fun _ S20 => if (S20 4 (r1 : Int32).toNatClampNeg) = 0 then (((), S20)) else (gw_n (gw_u S20 1 4 r6) fun S34 => ((), S34)))
set_option maxHeartbeats 4000000 in
set_option maxRecDepth 100000 in
theorem c_Player_loop (hJ : gw_J 46 ad)   (S : gw_S)  : gw_M l y_Player_loop prog_6_method_7_code 3 none gTs (gw_rm 3) D gCl (gTys cI cB cC cZ) 46 ad (cE ad cI cB cC) gw_rV [.ref (ad 1)] S (f_Player_loop S) := by
  refine gw_start gTs_ok (plainFor_of_name (by decide)) hJ (Nat.le_of_ble_eq_true rfl) (fun X A F => ?_)
  refine gw_lve (lv' := [(0, .ref (ad 1))]) rfl ?_
  unfold f_Player_loop
  refine gw_aload_n (pc := 0) F 0 d_Player_loop_0 rfl rfl ?_
  refine gw_cV (pc := 1) (As := []) (rest := []) F (c_Player_nextVariable (gw_FJ F) S) cw_Player_nextVariable cv_Player_nextVariable tw_236 rfl (by decide) (by decide) (by decide) cE_Player rfl rfl rfl rfl (Nat.le_of_ble_eq_true rfl) d_Player_loop_1 (gw_bI (P := fun r U => vp_in r 32) (cb_nextVariable S) (fun r1 S1 p1 => ?_))
  refine gw_istore_n (pc := 4) (lv' := [(1, .int r1), (0, .ref (ad 1))]) F d_Player_loop_4 rfl (by decide) rfl ?_
  refine gw_aload_n (pc := 5) F 1 d_Player_loop_5 rfl rfl ?_
  refine gw_cV (pc := 6) (As := []) (rest := []) F (c_Player_nextAddress (gw_FJ F) S1) cw_Player_nextAddress cv_Player_nextAddress tw_256 rfl (by decide) (by decide) (by decide) cE_Player rfl rfl rfl rfl (Nat.le_of_ble_eq_true rfl) d_Player_loop_6 (gw_bI (P := fun r U => True) trivial (fun r6 S6 p6 => ?_))
  refine gw_istore_n (pc := 9) (lv' := [(2, .int r6), (1, .int r1), (0, .ref (ad 1))]) F d_Player_loop_9 rfl (by decide) rfl ?_
  refine gw_aload_n (pc := 10) F 2 d_Player_loop_10 rfl rfl ?_
  refine gw_iload_n (pc := 11) F 1 d_Player_loop_11 rfl rfl ?_
  refine gw_aload_n (pc := 12) F 2 d_Player_loop_12 rfl rfl ?_
  refine cg_Player_variables (pc := 13) F tw_137 d_Player_loop_13 ?_
  refine gw_iload_n (pc := 16) F 1 d_Player_loop_16 rfl rfl ?_
  refine cl_Vars (pc := 17) F p1 d_Player_loop_17 ?_
  refine gw_iconst (pc := 18) (v := (1 : Int32)) F d_Player_loop_18 (by decide) ?_
  refine gw_isub (pc := 19) F d_Player_loop_19 ?_
  refine gw_cV (pc := 20) (As := [.int r1, .int ((S6 4 (r1 : Int32).toNatClampNeg) - (1 : Int32))]) (rest := []) F (c_Player_store (gw_FJ F) S6 r1 ((S6 4 (r1 : Int32).toNatClampNeg) - (1 : Int32)) p1) cw_Player_store cv_Player_store tw_252 rfl (by decide) (by decide) (by decide) cE_Player rfl rfl rfl rfl (Nat.le_of_ble_eq_true rfl) d_Player_loop_20 (gw_bV (P := fun _ U => True) trivial (fun _ S20 p20 => ?_))
  refine gw_aload_n (pc := 23) F 2 d_Player_loop_23 rfl rfl ?_
  refine cg_Player_variables (pc := 24) F tw_137 d_Player_loop_24 ?_
  refine gw_iload_n (pc := 27) F 1 d_Player_loop_27 rfl rfl ?_
  refine cl_Vars (pc := 28) F p1 d_Player_loop_28 ?_
  refine gw_if_eqS (pc := 29) (tgt := 37) F d_Player_loop_29 (by decide) (fun h29 => ?_) (fun h29 => ?_)
  · exact gw_vret (pc := 37) F d_Player_loop_37
  · refine gw_aload_n (pc := 32) F 2 d_Player_loop_32 rfl rfl ?_
    refine gw_iload_n (pc := 33) F 0 d_Player_loop_33 rfl rfl ?_
    refine cp_Player_at (pc := 34) F tw_143 d_Player_loop_34 ?_
    refine gw_nS (fun S34 E34 => ?_)
    exact gw_vret (pc := 37) F d_Player_loop_37
set_option maxHeartbeats 4000000 in
set_option maxRecDepth 100000 in
theorem po_ok_Player_loop   (S : gw_S)  (hf_ok : cOK S) : cOK (f_Player_loop S).2 := by
  unfold f_Player_loop
  refine po_b (Φ := fun p : Unit × gw_S => cOK p.2) (P := fun r U => cOK U ∧ vp_in r 32) ⟨(po_ok_Player_nextVariable S hf_ok), (cb_nextVariable S)⟩ (fun r1 S1 p1 => ?_)
  refine po_b (Φ := fun p : Unit × gw_S => cOK p.2) (P := fun r U => cOK U) (po_ok_Player_nextAddress S1 p1.1) (fun r6 S6 p6 => ?_)
  refine po_b (Φ := fun p : Unit × gw_S => cOK p.2) (P := fun _ U => cOK U) (po_ok_Player_store S6 r1 ((S6 4 (r1 : Int32).toNatClampNeg) - (1 : Int32)) p6 p1.2) (fun _ S20 p20 => ?_)
  refine po_if (Φ := fun p : Unit × gw_S => cOK p.2) (fun h29 => ?_) (fun h29 => ?_)
  · exact p20
  · refine po_n (Φ := fun p : Unit × gw_S => cOK p.2) (fun S34 E34 => ?_)
    exact (cOK_o E34 p20 (by omega))
noncomputable def f_Player_nextCompared   (S : gw_S) (a1 : Int32) : Int32 × gw_S := (if (a1 &&& (128 : Int32)) = 0 then (if (a1 &&& (64 : Int32)) = 0 then (gw_b (f_Player_nextByte S) fun r33 S33 => (r33, S33)) else (gw_b (f_Player_nextNumber S) fun r26 S26 => (r26, S26))) else (gw_b (f_Player_nextVariable S) fun r13 S13 => ((S13 4 (r13 : Int32).toNatClampNeg), S13)))
set_option maxHeartbeats 4000000 in
set_option maxRecDepth 100000 in
theorem c_Player_nextCompared (hJ : gw_J 46 ad)   (S : gw_S) (a1 : Int32) : gw_M l y_Player_nextCompared prog_6_method_9_code 2 (some .int) gTs (gw_rm 3) D gCl (gTys cI cB cC cZ) 46 ad (cE ad cI cB cC) gw_rI [.ref (ad 1), .int a1] S (f_Player_nextCompared S a1) := by
  refine gw_start gTs_ok (plainFor_of_name (by decide)) hJ (Nat.le_of_ble_eq_true rfl) (fun X A F => ?_)
  refine gw_lve (lv' := [(0, .ref (ad 1)), (1, .int a1)]) rfl ?_
  unfold f_Player_nextCompared
  refine gw_iload_n (pc := 0) F 1 d_Player_nextCompared_0 rfl rfl ?_
  refine gw_sipush (pc := 1) (v := (128 : Int32)) F d_Player_nextCompared_1 (by decide) ?_
  refine gw_iand (pc := 4) F d_Player_nextCompared_4 ?_
  refine gw_if_eqS (pc := 5) (tgt := 18) F d_Player_nextCompared_5 (by decide) (fun h5 => ?_) (fun h5 => ?_)
  · refine gw_iload_n (pc := 18) F 1 d_Player_nextCompared_18 rfl rfl ?_
    refine gw_bipush (pc := 19) (v := (64 : Int32)) F d_Player_nextCompared_19 (by decide) ?_
    refine gw_iand (pc := 21) F d_Player_nextCompared_21 ?_
    refine gw_if_eqS (pc := 22) (tgt := 32) F d_Player_nextCompared_22 (by decide) (fun h22 => ?_) (fun h22 => ?_)
    · refine gw_aload_n (pc := 32) F 0 d_Player_nextCompared_32 rfl rfl ?_
      refine gw_cV (pc := 33) (As := []) (rest := []) F (c_Player_nextByte (gw_FJ F) S) cw_Player_nextByte cv_Player_nextByte tw_227 rfl (by decide) (by decide) (by decide) cE_Player rfl rfl rfl rfl (Nat.le_of_ble_eq_true rfl) d_Player_nextCompared_33 (gw_bI (P := fun r U => True) trivial (fun r33 S33 p33 => ?_))
      exact gw_iret (pc := 36) F d_Player_nextCompared_36
    · refine gw_aload_n (pc := 25) F 0 d_Player_nextCompared_25 rfl rfl ?_
      refine gw_cV (pc := 26) (As := []) (rest := []) F (c_Player_nextNumber (gw_FJ F) S) cw_Player_nextNumber cv_Player_nextNumber tw_240 rfl (by decide) (by decide) (by decide) cE_Player rfl rfl rfl rfl (Nat.le_of_ble_eq_true rfl) d_Player_nextCompared_26 (gw_bI (P := fun r U => True) trivial (fun r26 S26 p26 => ?_))
      refine gw_goto (pc := 29) (tgt := 36) F d_Player_nextCompared_29 (by decide) ?_
      exact gw_iret (pc := 36) F d_Player_nextCompared_36
  · refine gw_aload_n (pc := 8) F 0 d_Player_nextCompared_8 rfl rfl ?_
    refine cg_Player_variables (pc := 9) F tw_137 d_Player_nextCompared_9 ?_
    refine gw_aload_n (pc := 12) F 0 d_Player_nextCompared_12 rfl rfl ?_
    refine gw_cV (pc := 13) (As := []) (rest := [.ref (ad 4)]) F (c_Player_nextVariable (gw_FJ F) S) cw_Player_nextVariable cv_Player_nextVariable tw_236 rfl (by decide) (by decide) (by decide) cE_Player rfl rfl rfl rfl (Nat.le_of_ble_eq_true rfl) d_Player_nextCompared_13 (gw_bI (P := fun r U => vp_in r 32) (cb_nextVariable S) (fun r13 S13 p13 => ?_))
    refine cl_Vars (pc := 16) F p13 d_Player_nextCompared_16 ?_
    exact gw_iret (pc := 17) F d_Player_nextCompared_17
set_option maxHeartbeats 4000000 in
set_option maxRecDepth 100000 in
theorem po_ok_Player_nextCompared   (S : gw_S) (a1 : Int32) (hf_ok : cOK S) : cOK (f_Player_nextCompared S a1).2 := by
  unfold f_Player_nextCompared
  refine po_if (Φ := fun p : Int32 × gw_S => cOK p.2) (fun h5 => ?_) (fun h5 => ?_)
  · refine po_if (Φ := fun p : Int32 × gw_S => cOK p.2) (fun h22 => ?_) (fun h22 => ?_)
    · refine po_b (Φ := fun p : Int32 × gw_S => cOK p.2) (P := fun r U => cOK U) (po_ok_Player_nextByte S hf_ok) (fun r33 S33 p33 => ?_)
      exact p33
    · refine po_b (Φ := fun p : Int32 × gw_S => cOK p.2) (P := fun r U => cOK U) (po_ok_Player_nextNumber S hf_ok) (fun r26 S26 p26 => ?_)
      exact p26
  · refine po_b (Φ := fun p : Int32 × gw_S => cOK p.2) (P := fun r U => cOK U ∧ vp_in r 32) ⟨(po_ok_Player_nextVariable S hf_ok), (cb_nextVariable S)⟩ (fun r13 S13 p13 => ?_)
    exact p13.1
noncomputable def f_Player_jumpIf  (j : Nat) (S : gw_S)  : Unit × gw_S := (gw_b (f_Player_nextByte S) fun r1 S1 => gw_b (f_Player_nextVariable S1) fun r10 S10 => gw_n (S10 4 (r10 : Int32).toNatClampNeg) fun v14 => gw_b (f_Player_nextCompared S10 r1) fun r17 S17 => gw_n (r1 &&& (7 : Int32)) fun v26 => if v26 ≤ (5 : Int32) then (gw_b (f_Player_nextAddress S17) fun r42 S42 => gw_b (f_Player_compares S42 v26 v14 r17) fun r52 S52 => if r52 = 0 then (((), S52)) else (gw_n (gw_u S52 1 4 r42) fun S61 => ((), S61))) else (gw_b (f_Player_fail j S17 (3 : Int32)) fun _ S37 => ((), S37)))
set_option maxHeartbeats 4000000 in
set_option maxRecDepth 100000 in
theorem c_Player_jumpIf (hJ : gw_J 46 ad)  {j : Nat} (hj : j < 16) (S : gw_S)  : gw_M l y_Player_jumpIf prog_6_method_8_code 7 none gTs (gw_rm 4) D gCl (gTys cI cB cC cZ) 46 ad (cE ad cI cB cC) gw_rV [.ref (ad 1), .ref (ad (j + 14))] S (f_Player_jumpIf j S) := by
  refine gw_start gTs_ok (plainFor_of_name (by decide)) hJ (Nat.le_of_ble_eq_true rfl) (fun X A F => ?_)
  refine gw_lve (lv' := [(0, .ref (ad 1)), (1, .ref (ad (j + 14)))]) rfl ?_
  unfold f_Player_jumpIf
  refine gw_aload_n (pc := 0) F 0 d_Player_jumpIf_0 rfl rfl ?_
  refine gw_cV (pc := 1) (As := []) (rest := []) F (c_Player_nextByte (gw_FJ F) S) cw_Player_nextByte cv_Player_nextByte tw_227 rfl (by decide) (by decide) (by decide) cE_Player rfl rfl rfl rfl (Nat.le_of_ble_eq_true rfl) d_Player_jumpIf_1 (gw_bI (P := fun r U => True) trivial (fun r1 S1 p1 => ?_))
  refine gw_istore_n (pc := 4) (lv' := [(2, .int r1), (0, .ref (ad 1)), (1, .ref (ad (j + 14)))]) F d_Player_jumpIf_4 rfl (by decide) rfl ?_
  refine gw_aload_n (pc := 5) F 1 d_Player_jumpIf_5 rfl rfl ?_
  refine cg_Player_variables (pc := 6) F tw_137 d_Player_jumpIf_6 ?_
  refine gw_aload_n (pc := 9) F 1 d_Player_jumpIf_9 rfl rfl ?_
  refine gw_cV (pc := 10) (As := []) (rest := [.ref (ad 4)]) F (c_Player_nextVariable (gw_FJ F) S1) cw_Player_nextVariable cv_Player_nextVariable tw_236 rfl (by decide) (by decide) (by decide) cE_Player rfl rfl rfl rfl (Nat.le_of_ble_eq_true rfl) d_Player_jumpIf_10 (gw_bI (P := fun r U => vp_in r 32) (cb_nextVariable S1) (fun r10 S10 p10 => ?_))
  refine cl_Vars (pc := 13) F p10 d_Player_jumpIf_13 ?_
  refine gw_nI (fun v14 e14 => ?_)
  refine gw_istore_n (pc := 14) (lv' := [(3, .int v14), (2, .int r1), (0, .ref (ad 1)), (1, .ref (ad (j + 14)))]) F d_Player_jumpIf_14 rfl (by decide) rfl ?_
  refine gw_aload_n (pc := 15) F 2 d_Player_jumpIf_15 rfl rfl ?_
  refine gw_iload_n (pc := 16) F 1 d_Player_jumpIf_16 rfl rfl ?_
  refine gw_cV (pc := 17) (As := [.int r1]) (rest := []) F (c_Player_nextCompared (gw_FJ F) S10 r1) cw_Player_nextCompared cv_Player_nextCompared tw_292 rfl (by decide) (by decide) (by decide) cE_Player rfl rfl rfl rfl (Nat.le_of_ble_eq_true rfl) d_Player_jumpIf_17 (gw_bI (P := fun r U => True) trivial (fun r17 S17 p17 => ?_))
  refine gw_istore (pc := 20) (lv' := [(4, .int r17), (3, .int v14), (2, .int r1), (0, .ref (ad 1)), (1, .ref (ad (j + 14)))]) F d_Player_jumpIf_20 (by decide) rfl ?_
  refine gw_iload_n (pc := 22) F 2 d_Player_jumpIf_22 rfl rfl ?_
  refine gw_bipush (pc := 23) (v := (7 : Int32)) F d_Player_jumpIf_23 (by decide) ?_
  refine gw_iand (pc := 25) F d_Player_jumpIf_25 ?_
  refine gw_nI (fun v26 e26 => ?_)
  refine gw_istore (pc := 26) (lv' := [(5, .int v26), (4, .int r17), (3, .int v14), (2, .int r1), (0, .ref (ad 1)), (1, .ref (ad (j + 14)))]) F d_Player_jumpIf_26 (by decide) rfl ?_
  refine gw_iload (pc := 28) F 0 d_Player_jumpIf_28 rfl ?_
  refine gw_iconst (pc := 30) (v := (5 : Int32)) F d_Player_jumpIf_30 (by decide) ?_
  refine gw_icmp_leS (pc := 31) (tgt := 41) F d_Player_jumpIf_31 (by decide) (fun h31 => ?_) (fun h31 => ?_)
  · refine gw_aload_n (pc := 41) F 4 d_Player_jumpIf_41 rfl rfl ?_
    refine gw_cV (pc := 42) (As := []) (rest := []) F (c_Player_nextAddress (gw_FJ F) S17) cw_Player_nextAddress cv_Player_nextAddress tw_256 rfl (by decide) (by decide) (by decide) cE_Player rfl rfl rfl rfl (Nat.le_of_ble_eq_true rfl) d_Player_jumpIf_42 (gw_bI (P := fun r U => True) trivial (fun r42 S42 p42 => ?_))
    refine gw_istore (pc := 45) (lv' := [(6, .int r42), (5, .int v26), (4, .int r17), (3, .int v14), (2, .int r1), (0, .ref (ad 1)), (1, .ref (ad (j + 14)))]) F d_Player_jumpIf_45 (by decide) rfl ?_
    refine gw_iload (pc := 47) F 1 d_Player_jumpIf_47 rfl ?_
    refine gw_iload_n (pc := 49) F 3 d_Player_jumpIf_49 rfl rfl ?_
    refine gw_iload (pc := 50) F 2 d_Player_jumpIf_50 rfl ?_
    refine gw_cS (pc := 52) (As := [.int v26, .int v14, .int r17]) (rest := []) F (c_Player_compares (gw_FJ F) S42 v26 v14 r17) cw_Player_compares cv_Player_compares tw_296 rfl (by decide) (by decide) rfl rfl (Nat.le_of_ble_eq_true rfl) d_Player_jumpIf_52 (gw_bI (P := fun r U => True) trivial (fun r52 S52 p52 => ?_))
    refine gw_if_eqS (pc := 55) (tgt := 64) F d_Player_jumpIf_55 (by decide) (fun h55 => ?_) (fun h55 => ?_)
    · exact gw_vret (pc := 64) F d_Player_jumpIf_64
    · refine gw_aload_n (pc := 58) F 5 d_Player_jumpIf_58 rfl rfl ?_
      refine gw_iload (pc := 59) F 0 d_Player_jumpIf_59 rfl ?_
      refine cp_Player_at (pc := 61) F tw_143 d_Player_jumpIf_61 ?_
      refine gw_nS (fun S61 E61 => ?_)
      exact gw_vret (pc := 64) F d_Player_jumpIf_64
  · refine gw_aload_n (pc := 34) F 4 d_Player_jumpIf_34 rfl rfl ?_
    refine gw_aload_n (pc := 35) F 5 d_Player_jumpIf_35 rfl rfl ?_
    refine gw_iconst (pc := 36) (v := (3 : Int32)) F d_Player_jumpIf_36 (by decide) ?_
    refine gw_cV (pc := 37) (As := [.ref (ad (j + 14)), .int (3 : Int32)]) (rest := []) F (c_Player_fail (gw_FJ F) hj S17 (3 : Int32)) cw_Player_fail cv_Player_fail tw_268 rfl (by decide) (by decide) (by decide) cE_Player rfl rfl rfl rfl (Nat.le_of_ble_eq_true rfl) d_Player_jumpIf_37 (gw_bV (P := fun _ U => True) trivial (fun _ S37 p37 => ?_))
    exact gw_vret (pc := 40) F d_Player_jumpIf_40
set_option maxHeartbeats 4000000 in
set_option maxRecDepth 100000 in
theorem po_ok_Player_jumpIf  {j : Nat} (hj : j < 16) (S : gw_S)  (hf_ok : cOK S) : cOK (f_Player_jumpIf j S).2 := by
  unfold f_Player_jumpIf
  refine po_b (Φ := fun p : Unit × gw_S => cOK p.2) (P := fun r U => cOK U) (po_ok_Player_nextByte S hf_ok) (fun r1 S1 p1 => ?_)
  refine po_b (Φ := fun p : Unit × gw_S => cOK p.2) (P := fun r U => cOK U ∧ vp_in r 32) ⟨(po_ok_Player_nextVariable S1 p1), (cb_nextVariable S1)⟩ (fun r10 S10 p10 => ?_)
  refine po_n (Φ := fun p : Unit × gw_S => cOK p.2) (fun v14 e14 => ?_)
  refine po_b (Φ := fun p : Unit × gw_S => cOK p.2) (P := fun r U => cOK U) (po_ok_Player_nextCompared S10 r1 p10.1) (fun r17 S17 p17 => ?_)
  refine po_n (Φ := fun p : Unit × gw_S => cOK p.2) (fun v26 e26 => ?_)
  refine po_if (Φ := fun p : Unit × gw_S => cOK p.2) (fun h31 => ?_) (fun h31 => ?_)
  · refine po_b (Φ := fun p : Unit × gw_S => cOK p.2) (P := fun r U => cOK U) (po_ok_Player_nextAddress S17 p17) (fun r42 S42 p42 => ?_)
    refine po_b (Φ := fun p : Unit × gw_S => cOK p.2) (P := fun r U => cOK U) (po_ok_Player_compares S42 v26 v14 r17 p42) (fun r52 S52 p52 => ?_)
    refine po_if (Φ := fun p : Unit × gw_S => cOK p.2) (fun h55 => ?_) (fun h55 => ?_)
    · exact p52
    · refine po_n (Φ := fun p : Unit × gw_S => cOK p.2) (fun S61 E61 => ?_)
      exact (cOK_o E61 p52 (by omega))
  · refine po_b (Φ := fun p : Unit × gw_S => cOK p.2) (P := fun _ U => cOK U) (po_ok_Player_fail hj S17 (3 : Int32) p17) (fun _ S37 p37 => ?_)
    exact p37
noncomputable def f_Player_startOther   (S : gw_S)  : Unit × gw_S := (gw_b (f_Player_nextByte S) fun r1 S1 => gw_n (r1 &&& (15 : Int32)) fun v7 => gw_b (f_Player_nextAddress S1) fun r15 S15 => gw_n (gw_u S15 ((v7 : Int32).toNatClampNeg + 14) 5 r15) fun S18 => ((), S18))
set_option maxHeartbeats 4000000 in
set_option maxRecDepth 100000 in
theorem c_Player_startOther (hJ : gw_J 46 ad)   (S : gw_S)  : gw_M l y_Player_startOther prog_6_method_11_code 2 none gTs (gw_rm 3) D gCl (gTys cI cB cC cZ) 46 ad (cE ad cI cB cC) gw_rV [.ref (ad 1)] S (f_Player_startOther S) := by
  refine gw_start gTs_ok (plainFor_of_name (by decide)) hJ (Nat.le_of_ble_eq_true rfl) (fun X A F => ?_)
  refine gw_lve (lv' := [(0, .ref (ad 1))]) rfl ?_
  unfold f_Player_startOther
  refine gw_aload_n (pc := 0) F 0 d_Player_startOther_0 rfl rfl ?_
  refine gw_cV (pc := 1) (As := []) (rest := []) F (c_Player_nextByte (gw_FJ F) S) cw_Player_nextByte cv_Player_nextByte tw_227 rfl (by decide) (by decide) (by decide) cE_Player rfl rfl rfl rfl (Nat.le_of_ble_eq_true rfl) d_Player_startOther_1 (gw_bI (P := fun r U => True) trivial (fun r1 S1 p1 => ?_))
  refine gw_bipush (pc := 4) (v := (15 : Int32)) F d_Player_startOther_4 (by decide) ?_
  refine gw_iand (pc := 6) F d_Player_startOther_6 ?_
  refine gw_nI (fun v7 e7 => ?_)
  refine gw_istore_n (pc := 7) (lv' := [(1, .int v7), (0, .ref (ad 1))]) F d_Player_startOther_7 rfl (by decide) rfl ?_
  refine gw_aload_n (pc := 8) F 1 d_Player_startOther_8 rfl rfl ?_
  refine cg_Player_channels (pc := 9) F tw_139 d_Player_startOther_9 ?_
  refine gw_iload_n (pc := 12) F 0 d_Player_startOther_12 rfl rfl ?_
  refine cl_Chans (pc := 13) F (gw_inE e7 (gw_and15 _)) d_Player_startOther_13 ?_
  refine gw_aload_n (pc := 14) F 1 d_Player_startOther_14 rfl rfl ?_
  refine gw_cV (pc := 15) (As := []) (rest := [.ref (ad ((v7 : Int32).toNatClampNeg + 14))]) F (c_Player_nextAddress (gw_FJ F) S1) cw_Player_nextAddress cv_Player_nextAddress tw_256 rfl (by decide) (by decide) (by decide) cE_Player rfl rfl rfl rfl (Nat.le_of_ble_eq_true rfl) d_Player_startOther_15 (gw_bI (P := fun r U => True) trivial (fun r15 S15 p15 => ?_))
  refine cpN_Channel_askedAddress (pc := 18) F (gw_inlt (gw_inE e7 (gw_and15 _))) tw_117 d_Player_startOther_18 ?_
  refine gw_nS (fun S18 E18 => ?_)
  exact gw_vret (pc := 21) F d_Player_startOther_21
set_option maxHeartbeats 4000000 in
set_option maxRecDepth 100000 in
theorem po_ok_Player_startOther   (S : gw_S)  (hf_ok : cOK S) : cOK (f_Player_startOther S).2 := by
  unfold f_Player_startOther
  refine po_b (Φ := fun p : Unit × gw_S => cOK p.2) (P := fun r U => cOK U) (po_ok_Player_nextByte S hf_ok) (fun r1 S1 p1 => ?_)
  refine po_n (Φ := fun p : Unit × gw_S => cOK p.2) (fun v7 e7 => ?_)
  refine po_b (Φ := fun p : Unit × gw_S => cOK p.2) (P := fun r U => cOK U) (po_ok_Player_nextAddress S1 p1) (fun r15 S15 p15 => ?_)
  refine po_n (Φ := fun p : Unit × gw_S => cOK p.2) (fun S18 E18 => ?_)
  exact (cOK_o E18 p15 (by omega))
noncomputable def f_Player_compute   (S : gw_S) (a1 : Int32) : Unit × gw_S := (gw_b (f_Player_nextVariable S) fun r1 S1 => (if a1 = 0 then (gw_b (f_Player_nextNumber S1) fun r55 S55 => gw_b (f_Player_store S55 r1 r55) fun _ S58 => ((), S58)) else (if a1 = 1 then (gw_b (f_Player_nextVariable S1) fun r71 S71 => gw_b (f_Player_store S71 r1 (S71 4 (r71 : Int32).toNatClampNeg)) fun _ S75 => ((), S75)) else (if a1 = 2 then (gw_b (f_Player_nextVariable S1) fun r94 S94 => gw_b (f_Player_store S94 r1 ((S1 4 (r1 : Int32).toNatClampNeg) + (S94 4 (r94 : Int32).toNatClampNeg))) fun _ S99 => ((), S99)) else (if a1 = 3 then (gw_b (f_Player_nextNumber S1) fun r114 S114 => gw_b (f_Player_store S114 r1 ((S1 4 (r1 : Int32).toNatClampNeg) + r114)) fun _ S118 => ((), S118)) else (if a1 = 4 then (gw_b (f_Player_nextVariable S1) fun r137 S137 => gw_b (f_Player_store S137 r1 ((S1 4 (r1 : Int32).toNatClampNeg) - (S137 4 (r137 : Int32).toNatClampNeg))) fun _ S142 => ((), S142)) else (if a1 = 5 then (gw_b (f_Player_nextNumber S1) fun r157 S157 => gw_b (f_Player_store S157 r1 ((S1 4 (r1 : Int32).toNatClampNeg) &&& r157)) fun _ S161 => ((), S161)) else (if a1 = 6 then (gw_b (f_Player_nextNumber S1) fun r176 S176 => gw_b (f_Player_store S176 r1 ((S1 4 (r1 : Int32).toNatClampNeg) ||| r176)) fun _ S180 => ((), S180)) else (if a1 = 7 then (gw_b (f_Player_nextByte S1) fun r195 S195 => gw_b (f_Player_store S195 r1 ((S1 4 (r1 : Int32).toNatClampNeg) <<< ((r195 &&& (15 : Int32)) &&& 31))) fun _ S202 => ((), S202)) else (gw_b (f_Player_nextByte S1) fun r217 S217 => gw_b (f_Player_store S217 r1 ((S1 4 (r1 : Int32).toNatClampNeg) >>> ((r217 &&& (15 : Int32)) &&& 31))) fun _ S224 => ((), S224)))))))))))
set_option maxHeartbeats 4000000 in
set_option maxRecDepth 100000 in
theorem c_Player_compute (hJ : gw_J 46 ad)   (S : gw_S) (a1 : Int32) : gw_M l y_Player_compute prog_6_method_4_code 3 none gTs (gw_rm 3) D gCl (gTys cI cB cC cZ) 46 ad (cE ad cI cB cC) gw_rV [.ref (ad 1), .int a1] S (f_Player_compute S a1) := by
  refine gw_start gTs_ok (plainFor_of_name (by decide)) hJ (Nat.le_of_ble_eq_true rfl) (fun X A F => ?_)
  refine gw_lve (lv' := [(0, .ref (ad 1)), (1, .int a1)]) rfl ?_
  unfold f_Player_compute
  refine gw_aload_n (pc := 0) F 0 d_Player_compute_0 rfl rfl ?_
  refine gw_cV (pc := 1) (As := []) (rest := []) F (c_Player_nextVariable (gw_FJ F) S) cw_Player_nextVariable cv_Player_nextVariable tw_236 rfl (by decide) (by decide) (by decide) cE_Player rfl rfl rfl rfl (Nat.le_of_ble_eq_true rfl) d_Player_compute_1 (gw_bI (P := fun r U => vp_in r 32) (cb_nextVariable S) (fun r1 S1 p1 => ?_))
  refine gw_istore_n (pc := 4) (lv' := [(2, .int r1), (0, .ref (ad 1)), (1, .int a1)]) F d_Player_compute_4 rfl (by decide) rfl ?_
  refine gw_iload_n (pc := 5) F 2 d_Player_compute_5 rfl rfl ?_
  refine gw_spl (fun h6_0 => ?_) (fun h6_0 => ?_)
  · refine gw_tableIn (pc := 6) (tgt := 52) F d_Player_compute_6 h6_0 (by decide) (by decide) rfl (by decide) ?_
    refine gw_aload_n (pc := 52) F 1 d_Player_compute_52 rfl rfl ?_
    refine gw_iload_n (pc := 53) F 0 d_Player_compute_53 rfl rfl ?_
    refine gw_aload_n (pc := 54) F 1 d_Player_compute_54 rfl rfl ?_
    refine gw_cV (pc := 55) (As := []) (rest := [.int r1, .ref (ad 1)]) F (c_Player_nextNumber (gw_FJ F) S1) cw_Player_nextNumber cv_Player_nextNumber tw_240 rfl (by decide) (by decide) (by decide) cE_Player rfl rfl rfl rfl (Nat.le_of_ble_eq_true rfl) d_Player_compute_55 (gw_bI (P := fun r U => True) trivial (fun r55 S55 p55 => ?_))
    refine gw_cV (pc := 58) (As := [.int r1, .int r55]) (rest := []) F (c_Player_store (gw_FJ F) S55 r1 r55 p1) cw_Player_store cv_Player_store tw_252 rfl (by decide) (by decide) (by decide) cE_Player rfl rfl rfl rfl (Nat.le_of_ble_eq_true rfl) d_Player_compute_58 (gw_bV (P := fun _ U => True) trivial (fun _ S58 p58 => ?_))
    refine gw_goto (pc := 61) (tgt := 227) F d_Player_compute_61 (by decide) ?_
    exact gw_vret (pc := 227) F d_Player_compute_227
  refine gw_spl (fun h6_1 => ?_) (fun h6_1 => ?_)
  · refine gw_tableIn (pc := 6) (tgt := 64) F d_Player_compute_6 h6_1 (by decide) (by decide) rfl (by decide) ?_
    refine gw_aload_n (pc := 64) F 1 d_Player_compute_64 rfl rfl ?_
    refine gw_iload_n (pc := 65) F 0 d_Player_compute_65 rfl rfl ?_
    refine gw_aload_n (pc := 66) F 1 d_Player_compute_66 rfl rfl ?_
    refine cg_Player_variables (pc := 67) F tw_137 d_Player_compute_67 ?_
    refine gw_aload_n (pc := 70) F 1 d_Player_compute_70 rfl rfl ?_
    refine gw_cV (pc := 71) (As := []) (rest := [.ref (ad 4), .int r1, .ref (ad 1)]) F (c_Player_nextVariable (gw_FJ F) S1) cw_Player_nextVariable cv_Player_nextVariable tw_236 rfl (by decide) (by decide) (by decide) cE_Player rfl rfl rfl rfl (Nat.le_of_ble_eq_true rfl) d_Player_compute_71 (gw_bI (P := fun r U => vp_in r 32) (cb_nextVariable S1) (fun r71 S71 p71 => ?_))
    refine cl_Vars (pc := 74) F p71 d_Player_compute_74 ?_
    refine gw_cV (pc := 75) (As := [.int r1, .int (S71 4 (r71 : Int32).toNatClampNeg)]) (rest := []) F (c_Player_store (gw_FJ F) S71 r1 (S71 4 (r71 : Int32).toNatClampNeg) p1) cw_Player_store cv_Player_store tw_252 rfl (by decide) (by decide) (by decide) cE_Player rfl rfl rfl rfl (Nat.le_of_ble_eq_true rfl) d_Player_compute_75 (gw_bV (P := fun _ U => True) trivial (fun _ S75 p75 => ?_))
    refine gw_goto (pc := 78) (tgt := 227) F d_Player_compute_78 (by decide) ?_
    exact gw_vret (pc := 227) F d_Player_compute_227
  refine gw_spl (fun h6_2 => ?_) (fun h6_2 => ?_)
  · refine gw_tableIn (pc := 6) (tgt := 81) F d_Player_compute_6 h6_2 (by decide) (by decide) rfl (by decide) ?_
    refine gw_aload_n (pc := 81) F 1 d_Player_compute_81 rfl rfl ?_
    refine gw_iload_n (pc := 82) F 0 d_Player_compute_82 rfl rfl ?_
    refine gw_aload_n (pc := 83) F 1 d_Player_compute_83 rfl rfl ?_
    refine cg_Player_variables (pc := 84) F tw_137 d_Player_compute_84 ?_
    refine gw_iload_n (pc := 87) F 0 d_Player_compute_87 rfl rfl ?_
    refine cl_Vars (pc := 88) F p1 d_Player_compute_88 ?_
    refine gw_aload_n (pc := 89) F 1 d_Player_compute_89 rfl rfl ?_
    refine cg_Player_variables (pc := 90) F tw_137 d_Player_compute_90 ?_
    refine gw_aload_n (pc := 93) F 1 d_Player_compute_93 rfl rfl ?_
    refine gw_cV (pc := 94) (As := []) (rest := [.ref (ad 4), .int (S1 4 (r1 : Int32).toNatClampNeg), .int r1, .ref (ad 1)]) F (c_Player_nextVariable (gw_FJ F) S1) cw_Player_nextVariable cv_Player_nextVariable tw_236 rfl (by decide) (by decide) (by decide) cE_Player rfl rfl rfl rfl (Nat.le_of_ble_eq_true rfl) d_Player_compute_94 (gw_bI (P := fun r U => vp_in r 32) (cb_nextVariable S1) (fun r94 S94 p94 => ?_))
    refine cl_Vars (pc := 97) F p94 d_Player_compute_97 ?_
    refine gw_iadd (pc := 98) F d_Player_compute_98 ?_
    refine gw_cV (pc := 99) (As := [.int r1, .int ((S1 4 (r1 : Int32).toNatClampNeg) + (S94 4 (r94 : Int32).toNatClampNeg))]) (rest := []) F (c_Player_store (gw_FJ F) S94 r1 ((S1 4 (r1 : Int32).toNatClampNeg) + (S94 4 (r94 : Int32).toNatClampNeg)) p1) cw_Player_store cv_Player_store tw_252 rfl (by decide) (by decide) (by decide) cE_Player rfl rfl rfl rfl (Nat.le_of_ble_eq_true rfl) d_Player_compute_99 (gw_bV (P := fun _ U => True) trivial (fun _ S99 p99 => ?_))
    refine gw_goto (pc := 102) (tgt := 227) F d_Player_compute_102 (by decide) ?_
    exact gw_vret (pc := 227) F d_Player_compute_227
  refine gw_spl (fun h6_3 => ?_) (fun h6_3 => ?_)
  · refine gw_tableIn (pc := 6) (tgt := 105) F d_Player_compute_6 h6_3 (by decide) (by decide) rfl (by decide) ?_
    refine gw_aload_n (pc := 105) F 1 d_Player_compute_105 rfl rfl ?_
    refine gw_iload_n (pc := 106) F 0 d_Player_compute_106 rfl rfl ?_
    refine gw_aload_n (pc := 107) F 1 d_Player_compute_107 rfl rfl ?_
    refine cg_Player_variables (pc := 108) F tw_137 d_Player_compute_108 ?_
    refine gw_iload_n (pc := 111) F 0 d_Player_compute_111 rfl rfl ?_
    refine cl_Vars (pc := 112) F p1 d_Player_compute_112 ?_
    refine gw_aload_n (pc := 113) F 1 d_Player_compute_113 rfl rfl ?_
    refine gw_cV (pc := 114) (As := []) (rest := [.int (S1 4 (r1 : Int32).toNatClampNeg), .int r1, .ref (ad 1)]) F (c_Player_nextNumber (gw_FJ F) S1) cw_Player_nextNumber cv_Player_nextNumber tw_240 rfl (by decide) (by decide) (by decide) cE_Player rfl rfl rfl rfl (Nat.le_of_ble_eq_true rfl) d_Player_compute_114 (gw_bI (P := fun r U => True) trivial (fun r114 S114 p114 => ?_))
    refine gw_iadd (pc := 117) F d_Player_compute_117 ?_
    refine gw_cV (pc := 118) (As := [.int r1, .int ((S1 4 (r1 : Int32).toNatClampNeg) + r114)]) (rest := []) F (c_Player_store (gw_FJ F) S114 r1 ((S1 4 (r1 : Int32).toNatClampNeg) + r114) p1) cw_Player_store cv_Player_store tw_252 rfl (by decide) (by decide) (by decide) cE_Player rfl rfl rfl rfl (Nat.le_of_ble_eq_true rfl) d_Player_compute_118 (gw_bV (P := fun _ U => True) trivial (fun _ S118 p118 => ?_))
    refine gw_goto (pc := 121) (tgt := 227) F d_Player_compute_121 (by decide) ?_
    exact gw_vret (pc := 227) F d_Player_compute_227
  refine gw_spl (fun h6_4 => ?_) (fun h6_4 => ?_)
  · refine gw_tableIn (pc := 6) (tgt := 124) F d_Player_compute_6 h6_4 (by decide) (by decide) rfl (by decide) ?_
    refine gw_aload_n (pc := 124) F 1 d_Player_compute_124 rfl rfl ?_
    refine gw_iload_n (pc := 125) F 0 d_Player_compute_125 rfl rfl ?_
    refine gw_aload_n (pc := 126) F 1 d_Player_compute_126 rfl rfl ?_
    refine cg_Player_variables (pc := 127) F tw_137 d_Player_compute_127 ?_
    refine gw_iload_n (pc := 130) F 0 d_Player_compute_130 rfl rfl ?_
    refine cl_Vars (pc := 131) F p1 d_Player_compute_131 ?_
    refine gw_aload_n (pc := 132) F 1 d_Player_compute_132 rfl rfl ?_
    refine cg_Player_variables (pc := 133) F tw_137 d_Player_compute_133 ?_
    refine gw_aload_n (pc := 136) F 1 d_Player_compute_136 rfl rfl ?_
    refine gw_cV (pc := 137) (As := []) (rest := [.ref (ad 4), .int (S1 4 (r1 : Int32).toNatClampNeg), .int r1, .ref (ad 1)]) F (c_Player_nextVariable (gw_FJ F) S1) cw_Player_nextVariable cv_Player_nextVariable tw_236 rfl (by decide) (by decide) (by decide) cE_Player rfl rfl rfl rfl (Nat.le_of_ble_eq_true rfl) d_Player_compute_137 (gw_bI (P := fun r U => vp_in r 32) (cb_nextVariable S1) (fun r137 S137 p137 => ?_))
    refine cl_Vars (pc := 140) F p137 d_Player_compute_140 ?_
    refine gw_isub (pc := 141) F d_Player_compute_141 ?_
    refine gw_cV (pc := 142) (As := [.int r1, .int ((S1 4 (r1 : Int32).toNatClampNeg) - (S137 4 (r137 : Int32).toNatClampNeg))]) (rest := []) F (c_Player_store (gw_FJ F) S137 r1 ((S1 4 (r1 : Int32).toNatClampNeg) - (S137 4 (r137 : Int32).toNatClampNeg)) p1) cw_Player_store cv_Player_store tw_252 rfl (by decide) (by decide) (by decide) cE_Player rfl rfl rfl rfl (Nat.le_of_ble_eq_true rfl) d_Player_compute_142 (gw_bV (P := fun _ U => True) trivial (fun _ S142 p142 => ?_))
    refine gw_goto (pc := 145) (tgt := 227) F d_Player_compute_145 (by decide) ?_
    exact gw_vret (pc := 227) F d_Player_compute_227
  refine gw_spl (fun h6_5 => ?_) (fun h6_5 => ?_)
  · refine gw_tableIn (pc := 6) (tgt := 148) F d_Player_compute_6 h6_5 (by decide) (by decide) rfl (by decide) ?_
    refine gw_aload_n (pc := 148) F 1 d_Player_compute_148 rfl rfl ?_
    refine gw_iload_n (pc := 149) F 0 d_Player_compute_149 rfl rfl ?_
    refine gw_aload_n (pc := 150) F 1 d_Player_compute_150 rfl rfl ?_
    refine cg_Player_variables (pc := 151) F tw_137 d_Player_compute_151 ?_
    refine gw_iload_n (pc := 154) F 0 d_Player_compute_154 rfl rfl ?_
    refine cl_Vars (pc := 155) F p1 d_Player_compute_155 ?_
    refine gw_aload_n (pc := 156) F 1 d_Player_compute_156 rfl rfl ?_
    refine gw_cV (pc := 157) (As := []) (rest := [.int (S1 4 (r1 : Int32).toNatClampNeg), .int r1, .ref (ad 1)]) F (c_Player_nextNumber (gw_FJ F) S1) cw_Player_nextNumber cv_Player_nextNumber tw_240 rfl (by decide) (by decide) (by decide) cE_Player rfl rfl rfl rfl (Nat.le_of_ble_eq_true rfl) d_Player_compute_157 (gw_bI (P := fun r U => True) trivial (fun r157 S157 p157 => ?_))
    refine gw_iand (pc := 160) F d_Player_compute_160 ?_
    refine gw_cV (pc := 161) (As := [.int r1, .int ((S1 4 (r1 : Int32).toNatClampNeg) &&& r157)]) (rest := []) F (c_Player_store (gw_FJ F) S157 r1 ((S1 4 (r1 : Int32).toNatClampNeg) &&& r157) p1) cw_Player_store cv_Player_store tw_252 rfl (by decide) (by decide) (by decide) cE_Player rfl rfl rfl rfl (Nat.le_of_ble_eq_true rfl) d_Player_compute_161 (gw_bV (P := fun _ U => True) trivial (fun _ S161 p161 => ?_))
    refine gw_goto (pc := 164) (tgt := 227) F d_Player_compute_164 (by decide) ?_
    exact gw_vret (pc := 227) F d_Player_compute_227
  refine gw_spl (fun h6_6 => ?_) (fun h6_6 => ?_)
  · refine gw_tableIn (pc := 6) (tgt := 167) F d_Player_compute_6 h6_6 (by decide) (by decide) rfl (by decide) ?_
    refine gw_aload_n (pc := 167) F 1 d_Player_compute_167 rfl rfl ?_
    refine gw_iload_n (pc := 168) F 0 d_Player_compute_168 rfl rfl ?_
    refine gw_aload_n (pc := 169) F 1 d_Player_compute_169 rfl rfl ?_
    refine cg_Player_variables (pc := 170) F tw_137 d_Player_compute_170 ?_
    refine gw_iload_n (pc := 173) F 0 d_Player_compute_173 rfl rfl ?_
    refine cl_Vars (pc := 174) F p1 d_Player_compute_174 ?_
    refine gw_aload_n (pc := 175) F 1 d_Player_compute_175 rfl rfl ?_
    refine gw_cV (pc := 176) (As := []) (rest := [.int (S1 4 (r1 : Int32).toNatClampNeg), .int r1, .ref (ad 1)]) F (c_Player_nextNumber (gw_FJ F) S1) cw_Player_nextNumber cv_Player_nextNumber tw_240 rfl (by decide) (by decide) (by decide) cE_Player rfl rfl rfl rfl (Nat.le_of_ble_eq_true rfl) d_Player_compute_176 (gw_bI (P := fun r U => True) trivial (fun r176 S176 p176 => ?_))
    refine gw_ior (pc := 179) F d_Player_compute_179 ?_
    refine gw_cV (pc := 180) (As := [.int r1, .int ((S1 4 (r1 : Int32).toNatClampNeg) ||| r176)]) (rest := []) F (c_Player_store (gw_FJ F) S176 r1 ((S1 4 (r1 : Int32).toNatClampNeg) ||| r176) p1) cw_Player_store cv_Player_store tw_252 rfl (by decide) (by decide) (by decide) cE_Player rfl rfl rfl rfl (Nat.le_of_ble_eq_true rfl) d_Player_compute_180 (gw_bV (P := fun _ U => True) trivial (fun _ S180 p180 => ?_))
    refine gw_goto (pc := 183) (tgt := 227) F d_Player_compute_183 (by decide) ?_
    exact gw_vret (pc := 227) F d_Player_compute_227
  refine gw_spl (fun h6_7 => ?_) (fun h6_7 => ?_)
  · refine gw_tableIn (pc := 6) (tgt := 186) F d_Player_compute_6 h6_7 (by decide) (by decide) rfl (by decide) ?_
    refine gw_aload_n (pc := 186) F 1 d_Player_compute_186 rfl rfl ?_
    refine gw_iload_n (pc := 187) F 0 d_Player_compute_187 rfl rfl ?_
    refine gw_aload_n (pc := 188) F 1 d_Player_compute_188 rfl rfl ?_
    refine cg_Player_variables (pc := 189) F tw_137 d_Player_compute_189 ?_
    refine gw_iload_n (pc := 192) F 0 d_Player_compute_192 rfl rfl ?_
    refine cl_Vars (pc := 193) F p1 d_Player_compute_193 ?_
    refine gw_aload_n (pc := 194) F 1 d_Player_compute_194 rfl rfl ?_
    refine gw_cV (pc := 195) (As := []) (rest := [.int (S1 4 (r1 : Int32).toNatClampNeg), .int r1, .ref (ad 1)]) F (c_Player_nextByte (gw_FJ F) S1) cw_Player_nextByte cv_Player_nextByte tw_227 rfl (by decide) (by decide) (by decide) cE_Player rfl rfl rfl rfl (Nat.le_of_ble_eq_true rfl) d_Player_compute_195 (gw_bI (P := fun r U => True) trivial (fun r195 S195 p195 => ?_))
    refine gw_bipush (pc := 198) (v := (15 : Int32)) F d_Player_compute_198 (by decide) ?_
    refine gw_iand (pc := 200) F d_Player_compute_200 ?_
    refine gw_ishl (pc := 201) F d_Player_compute_201 ?_
    refine gw_cV (pc := 202) (As := [.int r1, .int ((S1 4 (r1 : Int32).toNatClampNeg) <<< ((r195 &&& (15 : Int32)) &&& 31))]) (rest := []) F (c_Player_store (gw_FJ F) S195 r1 ((S1 4 (r1 : Int32).toNatClampNeg) <<< ((r195 &&& (15 : Int32)) &&& 31)) p1) cw_Player_store cv_Player_store tw_252 rfl (by decide) (by decide) (by decide) cE_Player rfl rfl rfl rfl (Nat.le_of_ble_eq_true rfl) d_Player_compute_202 (gw_bV (P := fun _ U => True) trivial (fun _ S202 p202 => ?_))
    refine gw_goto (pc := 205) (tgt := 227) F d_Player_compute_205 (by decide) ?_
    exact gw_vret (pc := 227) F d_Player_compute_227
  refine gw_tableOut (pc := 6) (tgt := 208) F d_Player_compute_6 (by have ne_0 : ¬ (a1 : Int32).toInt = 0 := gw_ne h6_0; have ne_1 : ¬ (a1 : Int32).toInt = 1 := gw_ne h6_1; have ne_2 : ¬ (a1 : Int32).toInt = 2 := gw_ne h6_2; have ne_3 : ¬ (a1 : Int32).toInt = 3 := gw_ne h6_3; have ne_4 : ¬ (a1 : Int32).toInt = 4 := gw_ne h6_4; have ne_5 : ¬ (a1 : Int32).toInt = 5 := gw_ne h6_5; have ne_6 : ¬ (a1 : Int32).toInt = 6 := gw_ne h6_6; have ne_7 : ¬ (a1 : Int32).toInt = 7 := gw_ne h6_7; omega) (by decide) ?_
  refine gw_aload_n (pc := 208) F 1 d_Player_compute_208 rfl rfl ?_
  refine gw_iload_n (pc := 209) F 0 d_Player_compute_209 rfl rfl ?_
  refine gw_aload_n (pc := 210) F 1 d_Player_compute_210 rfl rfl ?_
  refine cg_Player_variables (pc := 211) F tw_137 d_Player_compute_211 ?_
  refine gw_iload_n (pc := 214) F 0 d_Player_compute_214 rfl rfl ?_
  refine cl_Vars (pc := 215) F p1 d_Player_compute_215 ?_
  refine gw_aload_n (pc := 216) F 1 d_Player_compute_216 rfl rfl ?_
  refine gw_cV (pc := 217) (As := []) (rest := [.int (S1 4 (r1 : Int32).toNatClampNeg), .int r1, .ref (ad 1)]) F (c_Player_nextByte (gw_FJ F) S1) cw_Player_nextByte cv_Player_nextByte tw_227 rfl (by decide) (by decide) (by decide) cE_Player rfl rfl rfl rfl (Nat.le_of_ble_eq_true rfl) d_Player_compute_217 (gw_bI (P := fun r U => True) trivial (fun r217 S217 p217 => ?_))
  refine gw_bipush (pc := 220) (v := (15 : Int32)) F d_Player_compute_220 (by decide) ?_
  refine gw_iand (pc := 222) F d_Player_compute_222 ?_
  refine gw_ishr (pc := 223) F d_Player_compute_223 ?_
  refine gw_cV (pc := 224) (As := [.int r1, .int ((S1 4 (r1 : Int32).toNatClampNeg) >>> ((r217 &&& (15 : Int32)) &&& 31))]) (rest := []) F (c_Player_store (gw_FJ F) S217 r1 ((S1 4 (r1 : Int32).toNatClampNeg) >>> ((r217 &&& (15 : Int32)) &&& 31)) p1) cw_Player_store cv_Player_store tw_252 rfl (by decide) (by decide) (by decide) cE_Player rfl rfl rfl rfl (Nat.le_of_ble_eq_true rfl) d_Player_compute_224 (gw_bV (P := fun _ U => True) trivial (fun _ S224 p224 => ?_))
  exact gw_vret (pc := 227) F d_Player_compute_227
set_option maxHeartbeats 4000000 in
set_option maxRecDepth 100000 in
theorem po_ok_Player_compute   (S : gw_S) (a1 : Int32) (hf_ok : cOK S) : cOK (f_Player_compute S a1).2 := by
  unfold f_Player_compute
  refine po_b (Φ := fun p : Unit × gw_S => cOK p.2) (P := fun r U => cOK U ∧ vp_in r 32) ⟨(po_ok_Player_nextVariable S hf_ok), (cb_nextVariable S)⟩ (fun r1 S1 p1 => ?_)
  refine po_if (Φ := fun p : Unit × gw_S => cOK p.2) (fun h6_0 => ?_) (fun h6_0 => ?_)
  · refine po_b (Φ := fun p : Unit × gw_S => cOK p.2) (P := fun r U => cOK U) (po_ok_Player_nextNumber S1 p1.1) (fun r55 S55 p55 => ?_)
    refine po_b (Φ := fun p : Unit × gw_S => cOK p.2) (P := fun _ U => cOK U) (po_ok_Player_store S55 r1 r55 p55 p1.2) (fun _ S58 p58 => ?_)
    exact p58
  refine po_if (Φ := fun p : Unit × gw_S => cOK p.2) (fun h6_1 => ?_) (fun h6_1 => ?_)
  · refine po_b (Φ := fun p : Unit × gw_S => cOK p.2) (P := fun r U => cOK U ∧ vp_in r 32) ⟨(po_ok_Player_nextVariable S1 p1.1), (cb_nextVariable S1)⟩ (fun r71 S71 p71 => ?_)
    refine po_b (Φ := fun p : Unit × gw_S => cOK p.2) (P := fun _ U => cOK U) (po_ok_Player_store S71 r1 (S71 4 (r71 : Int32).toNatClampNeg) p71.1 p1.2) (fun _ S75 p75 => ?_)
    exact p75
  refine po_if (Φ := fun p : Unit × gw_S => cOK p.2) (fun h6_2 => ?_) (fun h6_2 => ?_)
  · refine po_b (Φ := fun p : Unit × gw_S => cOK p.2) (P := fun r U => cOK U ∧ vp_in r 32) ⟨(po_ok_Player_nextVariable S1 p1.1), (cb_nextVariable S1)⟩ (fun r94 S94 p94 => ?_)
    refine po_b (Φ := fun p : Unit × gw_S => cOK p.2) (P := fun _ U => cOK U) (po_ok_Player_store S94 r1 ((S1 4 (r1 : Int32).toNatClampNeg) + (S94 4 (r94 : Int32).toNatClampNeg)) p94.1 p1.2) (fun _ S99 p99 => ?_)
    exact p99
  refine po_if (Φ := fun p : Unit × gw_S => cOK p.2) (fun h6_3 => ?_) (fun h6_3 => ?_)
  · refine po_b (Φ := fun p : Unit × gw_S => cOK p.2) (P := fun r U => cOK U) (po_ok_Player_nextNumber S1 p1.1) (fun r114 S114 p114 => ?_)
    refine po_b (Φ := fun p : Unit × gw_S => cOK p.2) (P := fun _ U => cOK U) (po_ok_Player_store S114 r1 ((S1 4 (r1 : Int32).toNatClampNeg) + r114) p114 p1.2) (fun _ S118 p118 => ?_)
    exact p118
  refine po_if (Φ := fun p : Unit × gw_S => cOK p.2) (fun h6_4 => ?_) (fun h6_4 => ?_)
  · refine po_b (Φ := fun p : Unit × gw_S => cOK p.2) (P := fun r U => cOK U ∧ vp_in r 32) ⟨(po_ok_Player_nextVariable S1 p1.1), (cb_nextVariable S1)⟩ (fun r137 S137 p137 => ?_)
    refine po_b (Φ := fun p : Unit × gw_S => cOK p.2) (P := fun _ U => cOK U) (po_ok_Player_store S137 r1 ((S1 4 (r1 : Int32).toNatClampNeg) - (S137 4 (r137 : Int32).toNatClampNeg)) p137.1 p1.2) (fun _ S142 p142 => ?_)
    exact p142
  refine po_if (Φ := fun p : Unit × gw_S => cOK p.2) (fun h6_5 => ?_) (fun h6_5 => ?_)
  · refine po_b (Φ := fun p : Unit × gw_S => cOK p.2) (P := fun r U => cOK U) (po_ok_Player_nextNumber S1 p1.1) (fun r157 S157 p157 => ?_)
    refine po_b (Φ := fun p : Unit × gw_S => cOK p.2) (P := fun _ U => cOK U) (po_ok_Player_store S157 r1 ((S1 4 (r1 : Int32).toNatClampNeg) &&& r157) p157 p1.2) (fun _ S161 p161 => ?_)
    exact p161
  refine po_if (Φ := fun p : Unit × gw_S => cOK p.2) (fun h6_6 => ?_) (fun h6_6 => ?_)
  · refine po_b (Φ := fun p : Unit × gw_S => cOK p.2) (P := fun r U => cOK U) (po_ok_Player_nextNumber S1 p1.1) (fun r176 S176 p176 => ?_)
    refine po_b (Φ := fun p : Unit × gw_S => cOK p.2) (P := fun _ U => cOK U) (po_ok_Player_store S176 r1 ((S1 4 (r1 : Int32).toNatClampNeg) ||| r176) p176 p1.2) (fun _ S180 p180 => ?_)
    exact p180
  refine po_if (Φ := fun p : Unit × gw_S => cOK p.2) (fun h6_7 => ?_) (fun h6_7 => ?_)
  · refine po_b (Φ := fun p : Unit × gw_S => cOK p.2) (P := fun r U => cOK U) (po_ok_Player_nextByte S1 p1.1) (fun r195 S195 p195 => ?_)
    refine po_b (Φ := fun p : Unit × gw_S => cOK p.2) (P := fun _ U => cOK U) (po_ok_Player_store S195 r1 ((S1 4 (r1 : Int32).toNatClampNeg) <<< ((r195 &&& (15 : Int32)) &&& 31)) p195 p1.2) (fun _ S202 p202 => ?_)
    exact p202
  refine po_b (Φ := fun p : Unit × gw_S => cOK p.2) (P := fun r U => cOK U) (po_ok_Player_nextByte S1 p1.1) (fun r217 S217 p217 => ?_)
  refine po_b (Φ := fun p : Unit × gw_S => cOK p.2) (P := fun _ U => cOK U) (po_ok_Player_store S217 r1 ((S1 4 (r1 : Int32).toNatClampNeg) >>> ((r217 &&& (15 : Int32)) &&& 31)) p217 p1.2) (fun _ S224 p224 => ?_)
  exact p224
noncomputable def fl_Player_askOfEach_38   (y3 : Int32) (y4 : Int32) (n : Nat) : gw_S → Int32 → Unit × gw_S := gw_L1 (fun self S x5 => (if y3 < x5 then (((), S)) else (if y4 = (2 : Int32) then (gw_n (gw_u S ((x5 : Int32).toNatClampNeg + 14) 5 (-1 : Int32)) fun S58 => (self S58 (x5 + (1 : Int32)))) else (gw_n (gw_u S ((x5 : Int32).toNatClampNeg + 14) 6 y4) fun S73 => (self S73 (x5 + (1 : Int32))))))) (fun S _ => ((), S)) n
set_option maxHeartbeats 4000000 in
set_option maxRecDepth 100000 in
theorem l_Player_askOfEach_38 {X : gx_M} {A : Nat → Prop}  (F : gw_F X l prog_6_method_12_code 6 none "StageMachine$Player" gTs (gw_rm 2) D gCl (gTys cI cB cC cZ) 46 ad A) (y3 : Int32) (y4 : Int32) (hl3 : vp_in y3 16) : ∀ (n : Nat) (S : gw_S) (x5 : Int32), 0 < n → (y3 : Int32).toInt + 1 - x5.toInt < (n : Int) → 0 ≤ x5.toInt → gw_V X (gw_P D gCl 46 ad (cE ad cI cB cC)) A 6 gw_rV S 38 [(0, .ref (ad 1)), (3, .int y3), (4, .int y4), (5, .int x5)] [] (fl_Player_askOfEach_38 y3 y4 n S x5) := by
  intro n
  induction n with
  | zero => intro S x5 hn hf h0; exact absurd hn (Nat.lt_irrefl 0)
  | succ n ih =>
    intro S x5 hn hf h0
    refine gw_iload (pc := 38) F 3 d_Player_askOfEach_38 rfl ?_
    refine gw_iload_n (pc := 40) F 1 d_Player_askOfEach_40 rfl rfl ?_
    refine gw_icmp_gtS (pc := 41) (tgt := 82) F d_Player_askOfEach_41 (by decide) (fun h41 => ?_) (fun h41 => ?_)
    · exact gw_vret (pc := 82) F d_Player_askOfEach_82
    · refine gw_iload (pc := 44) F 2 d_Player_askOfEach_44 rfl ?_
      refine gw_iconst (pc := 46) (v := (2 : Int32)) F d_Player_askOfEach_46 (by decide) ?_
      refine gw_icmp_neS (pc := 47) (tgt := 64) F d_Player_askOfEach_47 (by decide) (fun h47 => ?_) (fun h47 => ?_)
      · refine gw_aload_n (pc := 64) F 0 d_Player_askOfEach_64 rfl rfl ?_
        refine cg_Player_channels (pc := 65) F tw_139 d_Player_askOfEach_65 ?_
        refine gw_iload (pc := 68) F 3 d_Player_askOfEach_68 rfl ?_
        refine cl_Chans (pc := 70) F (gw_inG hl3 h41 h0) d_Player_askOfEach_70 ?_
        refine gw_iload (pc := 71) F 2 d_Player_askOfEach_71 rfl ?_
        refine cpN_Channel_askedPause (pc := 73) F (gw_inlt (gw_inG hl3 h41 h0)) tw_119 d_Player_askOfEach_73 ?_
        refine gw_nS (fun S73 E73 => ?_)
        refine gw_iinc (pc := 76) (v := (x5 + (1 : Int32))) (lv' := [(5, .int (x5 + (1 : Int32))), (0, .ref (ad 1)), (3, .int y3), (4, .int y4)]) F 3 d_Player_askOfEach_76 rfl (congrArg (HAdd.hAdd x5) (by decide)) (by decide) rfl ?_
        refine gw_goto (pc := 79) (tgt := 38) F d_Player_askOfEach_79 (by decide) ?_
        refine gw_lvs (lv' := [(0, .ref (ad 1)), (3, .int y3), (4, .int y4), (5, .int (x5 + (1 : Int32)))]) [1, 2, 3, 0] rfl ?_
        exact ih S73 (x5 + (1 : Int32)) (gw_stpG hl3 h41 hf).1 (gw_stpG hl3 h41 hf).2.1 (gw_up1 (gw_stpG hl3 h41 hf).2.2 h0)
      · refine gw_aload_n (pc := 50) F 0 d_Player_askOfEach_50 rfl rfl ?_
        refine cg_Player_channels (pc := 51) F tw_139 d_Player_askOfEach_51 ?_
        refine gw_iload (pc := 54) F 3 d_Player_askOfEach_54 rfl ?_
        refine cl_Chans (pc := 56) F (gw_inG hl3 h41 h0) d_Player_askOfEach_56 ?_
        refine gw_iconst (pc := 57) (v := (-1 : Int32)) F d_Player_askOfEach_57 (by decide) ?_
        refine cpN_Channel_askedAddress (pc := 58) F (gw_inlt (gw_inG hl3 h41 h0)) tw_117 d_Player_askOfEach_58 ?_
        refine gw_nS (fun S58 E58 => ?_)
        refine gw_goto (pc := 61) (tgt := 76) F d_Player_askOfEach_61 (by decide) ?_
        refine gw_iinc (pc := 76) (v := (x5 + (1 : Int32))) (lv' := [(5, .int (x5 + (1 : Int32))), (0, .ref (ad 1)), (3, .int y3), (4, .int y4)]) F 3 d_Player_askOfEach_76 rfl (congrArg (HAdd.hAdd x5) (by decide)) (by decide) rfl ?_
        refine gw_goto (pc := 79) (tgt := 38) F d_Player_askOfEach_79 (by decide) ?_
        refine gw_lvs (lv' := [(0, .ref (ad 1)), (3, .int y3), (4, .int y4), (5, .int (x5 + (1 : Int32)))]) [1, 2, 3, 0] rfl ?_
        exact ih S58 (x5 + (1 : Int32)) (gw_stpG hl3 h41 hf).1 (gw_stpG hl3 h41 hf).2.1 (gw_up1 (gw_stpG hl3 h41 hf).2.2 h0)
noncomputable def f_Player_askOfEach  (j : Nat) (S : gw_S)  : Unit × gw_S := (gw_b (f_Player_nextByte S) fun r1 S1 => gw_n (r1 &&& (15 : Int32)) fun v7 => gw_b (f_Player_nextByte S1) fun r9 S9 => gw_n (r9 &&& (15 : Int32)) fun v15 => gw_b (f_Player_nextByte S9) fun r17 S17 => if r17 ≤ (2 : Int32) then (fl_Player_askOfEach_38 v15 r17 (gw_fu ((v15 : Int32).toInt + 1 - (v7 : Int32).toInt)) S17 v7) else (gw_b (f_Player_fail j S17 (4 : Int32)) fun _ S31 => ((), S31)))
set_option maxHeartbeats 4000000 in
set_option maxRecDepth 100000 in
theorem c_Player_askOfEach (hJ : gw_J 46 ad)  {j : Nat} (hj : j < 16) (S : gw_S)  : gw_M l y_Player_askOfEach prog_6_method_12_code 6 none gTs (gw_rm 2) D gCl (gTys cI cB cC cZ) 46 ad (cE ad cI cB cC) gw_rV [.ref (ad 1), .ref (ad (j + 14))] S (f_Player_askOfEach j S) := by
  refine gw_start gTs_ok (plainFor_of_name (by decide)) hJ (Nat.le_of_ble_eq_true rfl) (fun X A F => ?_)
  refine gw_lve (lv' := [(0, .ref (ad 1)), (1, .ref (ad (j + 14)))]) rfl ?_
  unfold f_Player_askOfEach
  refine gw_aload_n (pc := 0) F 0 d_Player_askOfEach_0 rfl rfl ?_
  refine gw_cV (pc := 1) (As := []) (rest := []) F (c_Player_nextByte (gw_FJ F) S) cw_Player_nextByte cv_Player_nextByte tw_227 rfl (by decide) (by decide) (by decide) cE_Player rfl rfl rfl rfl (Nat.le_of_ble_eq_true rfl) d_Player_askOfEach_1 (gw_bI (P := fun r U => True) trivial (fun r1 S1 p1 => ?_))
  refine gw_bipush (pc := 4) (v := (15 : Int32)) F d_Player_askOfEach_4 (by decide) ?_
  refine gw_iand (pc := 6) F d_Player_askOfEach_6 ?_
  refine gw_nI (fun v7 e7 => ?_)
  refine gw_istore_n (pc := 7) (lv' := [(2, .int v7), (0, .ref (ad 1)), (1, .ref (ad (j + 14)))]) F d_Player_askOfEach_7 rfl (by decide) rfl ?_
  refine gw_aload_n (pc := 8) F 1 d_Player_askOfEach_8 rfl rfl ?_
  refine gw_cV (pc := 9) (As := []) (rest := []) F (c_Player_nextByte (gw_FJ F) S1) cw_Player_nextByte cv_Player_nextByte tw_227 rfl (by decide) (by decide) (by decide) cE_Player rfl rfl rfl rfl (Nat.le_of_ble_eq_true rfl) d_Player_askOfEach_9 (gw_bI (P := fun r U => True) trivial (fun r9 S9 p9 => ?_))
  refine gw_bipush (pc := 12) (v := (15 : Int32)) F d_Player_askOfEach_12 (by decide) ?_
  refine gw_iand (pc := 14) F d_Player_askOfEach_14 ?_
  refine gw_nI (fun v15 e15 => ?_)
  refine gw_istore_n (pc := 15) (lv' := [(3, .int v15), (2, .int v7), (0, .ref (ad 1)), (1, .ref (ad (j + 14)))]) F d_Player_askOfEach_15 rfl (by decide) rfl ?_
  refine gw_aload_n (pc := 16) F 2 d_Player_askOfEach_16 rfl rfl ?_
  refine gw_cV (pc := 17) (As := []) (rest := []) F (c_Player_nextByte (gw_FJ F) S9) cw_Player_nextByte cv_Player_nextByte tw_227 rfl (by decide) (by decide) (by decide) cE_Player rfl rfl rfl rfl (Nat.le_of_ble_eq_true rfl) d_Player_askOfEach_17 (gw_bI (P := fun r U => True) trivial (fun r17 S17 p17 => ?_))
  refine gw_istore (pc := 20) (lv' := [(4, .int r17), (3, .int v15), (2, .int v7), (0, .ref (ad 1)), (1, .ref (ad (j + 14)))]) F d_Player_askOfEach_20 (by decide) rfl ?_
  refine gw_iload (pc := 22) F 0 d_Player_askOfEach_22 rfl ?_
  refine gw_iconst (pc := 24) (v := (2 : Int32)) F d_Player_askOfEach_24 (by decide) ?_
  refine gw_icmp_leS (pc := 25) (tgt := 35) F d_Player_askOfEach_25 (by decide) (fun h25 => ?_) (fun h25 => ?_)
  · refine gw_iload_n (pc := 35) F 2 d_Player_askOfEach_35 rfl rfl ?_
    refine gw_istore (pc := 36) (lv' := [(5, .int v7), (4, .int r17), (3, .int v15), (2, .int v7), (0, .ref (ad 1)), (1, .ref (ad (j + 14)))]) F d_Player_askOfEach_36 (by decide) rfl ?_
    refine gw_lvs (lv' := [(0, .ref (ad 1)), (3, .int v15), (4, .int r17), (5, .int v7)]) [4, 2, 1, 0] rfl ?_
    exact l_Player_askOfEach_38  F v15 r17 (gw_inE e15 (gw_and15 _)) (gw_fu ((v15 : Int32).toInt + 1 - (v7 : Int32).toInt)) S17 v7 (gw_fu_pos _) (gw_fu_lt _) (vp_in_iff.mp (gw_inE e7 (gw_and15 _))).1
  · refine gw_aload_n (pc := 28) F 3 d_Player_askOfEach_28 rfl rfl ?_
    refine gw_aload_n (pc := 29) F 4 d_Player_askOfEach_29 rfl rfl ?_
    refine gw_iconst (pc := 30) (v := (4 : Int32)) F d_Player_askOfEach_30 (by decide) ?_
    refine gw_cV (pc := 31) (As := [.ref (ad (j + 14)), .int (4 : Int32)]) (rest := []) F (c_Player_fail (gw_FJ F) hj S17 (4 : Int32)) cw_Player_fail cv_Player_fail tw_268 rfl (by decide) (by decide) (by decide) cE_Player rfl rfl rfl rfl (Nat.le_of_ble_eq_true rfl) d_Player_askOfEach_31 (gw_bV (P := fun _ U => True) trivial (fun _ S31 p31 => ?_))
    exact gw_vret (pc := 34) F d_Player_askOfEach_34
set_option maxHeartbeats 4000000 in
set_option maxRecDepth 100000 in
theorem pl_ok_Player_askOfEach_38  (y3 : Int32) (y4 : Int32) (hl3 : vp_in y3 16) : ∀ (n : Nat) (S : gw_S) (x5 : Int32), 0 < n → (y3 : Int32).toInt + 1 - x5.toInt < (n : Int) → 0 ≤ x5.toInt → cOK S → cOK (fl_Player_askOfEach_38 y3 y4 n S x5).2 := by
  intro n
  induction n with
  | zero => intro S x5 hn hf h0 hf_ok; exact absurd hn (Nat.lt_irrefl 0)
  | succ n ih =>
    intro S x5 hn hf h0 hf_ok
    refine po_if (Φ := fun p : Unit × gw_S => cOK p.2) (fun h41 => ?_) (fun h41 => ?_)
    · exact hf_ok
    · refine po_if (Φ := fun p : Unit × gw_S => cOK p.2) (fun h47 => ?_) (fun h47 => ?_)
      · refine po_n (Φ := fun p : Unit × gw_S => cOK p.2) (fun S58 E58 => ?_)
        exact ih S58 (x5 + (1 : Int32)) (gw_stpG hl3 h41 hf).1 (gw_stpG hl3 h41 hf).2.1 (gw_up1 (gw_stpG hl3 h41 hf).2.2 h0) (cOK_o E58 hf_ok (by omega))
      · refine po_n (Φ := fun p : Unit × gw_S => cOK p.2) (fun S73 E73 => ?_)
        exact ih S73 (x5 + (1 : Int32)) (gw_stpG hl3 h41 hf).1 (gw_stpG hl3 h41 hf).2.1 (gw_up1 (gw_stpG hl3 h41 hf).2.2 h0) (cOK_o E73 hf_ok (by omega))
set_option maxHeartbeats 4000000 in
set_option maxRecDepth 100000 in
theorem po_ok_Player_askOfEach  {j : Nat} (hj : j < 16) (S : gw_S)  (hf_ok : cOK S) : cOK (f_Player_askOfEach j S).2 := by
  unfold f_Player_askOfEach
  refine po_b (Φ := fun p : Unit × gw_S => cOK p.2) (P := fun r U => cOK U) (po_ok_Player_nextByte S hf_ok) (fun r1 S1 p1 => ?_)
  refine po_n (Φ := fun p : Unit × gw_S => cOK p.2) (fun v7 e7 => ?_)
  refine po_b (Φ := fun p : Unit × gw_S => cOK p.2) (P := fun r U => cOK U) (po_ok_Player_nextByte S1 p1) (fun r9 S9 p9 => ?_)
  refine po_n (Φ := fun p : Unit × gw_S => cOK p.2) (fun v15 e15 => ?_)
  refine po_b (Φ := fun p : Unit × gw_S => cOK p.2) (P := fun r U => cOK U) (po_ok_Player_nextByte S9 p9) (fun r17 S17 p17 => ?_)
  refine po_if (Φ := fun p : Unit × gw_S => cOK p.2) (fun h25 => ?_) (fun h25 => ?_)
  · exact pl_ok_Player_askOfEach_38 v15 r17 (gw_inE e15 (gw_and15 _)) (gw_fu ((v15 : Int32).toInt + 1 - (v7 : Int32).toInt)) S17 v7 (gw_fu_pos _) (gw_fu_lt _) (vp_in_iff.mp (gw_inE e7 (gw_and15 _))).1 p17
  · refine po_b (Φ := fun p : Unit × gw_S => cOK p.2) (P := fun _ U => cOK U) (po_ok_Player_fail hj S17 (4 : Int32) p17) (fun _ S31 p31 => ?_)
    exact p31
end
