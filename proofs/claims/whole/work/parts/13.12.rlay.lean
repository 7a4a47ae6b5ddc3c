section
variable {l : Launch} {D : va_G} {cI cB cC cZ : ClassId} {ad : Nat → Nat}
noncomputable def f_Model_lay   (S : gw_S) (a1 : Int32) (a2 : Int32) (a3 : Int32) (a4 : Int32) (a5 : Int32) : Unit × gw_S := (gw_n (gw_u S 12 ((S 0 23) : Int32).toNatClampNeg a1) fun S9 => gw_n (gw_u S9 13 ((S9 0 23) : Int32).toNatClampNeg a2) fun S19 => gw_n (gw_u S19 14 ((S19 0 23) : Int32).toNatClampNeg a3) fun S29 => gw_n (gw_u S29 15 ((S29 0 23) : Int32).toNatClampNeg a4) fun S40 => gw_n (gw_u S40 16 ((S40 0 23) : Int32).toNatClampNeg a5) fun S51 => gw_n (gw_u S51 0 23 ((S51 0 23) + (1 : Int32))) fun S59 => ((), S59))
set_option maxHeartbeats 4000000 in
set_option maxRecDepth 100000 in
theorem c_Model_lay (hJ : gw_J 20 ad)   (S : gw_S) (a1 : Int32) (a2 : Int32) (a3 : Int32) (a4 : Int32) (a5 : Int32) (hf_pt : vp_in (S 0 23) 100) (hb1 : vp_in a1 1024) : gw_M l y_Model_lay prog_8_method_33_code 6 none gTs (gw_rm 0) D gCl (gTys cI cB cC cZ) 20 ad (rE ad cI cB cZ) gw_rV [.ref (ad 0), .int a1, .int a2, .int a3, .int a4, .int a5] S (f_Model_lay S a1 a2 a3 a4 a5) := by
  refine gw_start gTs_ok (plainFor_of_name (by decide)) hJ (Nat.le_of_ble_eq_true rfl) (fun X A F => ?_)
  refine gw_lve (lv' := [(0, .ref (ad 0)), (1, .int a1), (2, .int a2), (3, .int a3), (4, .int a4), (5, .int a5)]) rfl ?_
  unfold f_Model_lay
  refine gw_aload_n (pc := 0) F 0 d_Model_lay_0 rfl rfl ?_
  refine rg_Model_partAt (pc := 1) F tw_431 d_Model_lay_1 ?_
  refine gw_aload_n (pc := 4) F 0 d_Model_lay_4 rfl rfl ?_
  refine rg_Model_parts (pc := 5) F tw_430 d_Model_lay_5 ?_
  refine gw_iload_n (pc := 8) F 1 d_Model_lay_8 rfl rfl ?_
  refine rs_MPa (pc := 9) F hf_pt d_Model_lay_9 ?_
  refine gw_nS (fun S9 E9 => ?_)
  refine gw_aload_n (pc := 10) F 0 d_Model_lay_10 rfl rfl ?_
  refine rg_Model_partX (pc := 11) F tw_432 d_Model_lay_11 ?_
  refine gw_aload_n (pc := 14) F 0 d_Model_lay_14 rfl rfl ?_
  refine rg_Model_parts (pc := 15) F tw_430 d_Model_lay_15 ?_
  refine gw_iload_n (pc := 18) F 2 d_Model_lay_18 rfl rfl ?_
  refine rs_MPx (pc := 19) F (rOK_keep (P := fun z => vp_in z 100) E9 hf_pt (by omega)) d_Model_lay_19 ?_
  refine gw_nS (fun S19 E19 => ?_)
  refine gw_aload_n (pc := 20) F 0 d_Model_lay_20 rfl rfl ?_
  refine rg_Model_partY (pc := 21) F tw_433 d_Model_lay_21 ?_
  refine gw_aload_n (pc := 24) F 0 d_Model_lay_24 rfl rfl ?_
  refine rg_Model_parts (pc := 25) F tw_430 d_Model_lay_25 ?_
  refine gw_iload_n (pc := 28) F 3 d_Model_lay_28 rfl rfl ?_
  refine rs_MPy (pc := 29) F (rOK_keep (P := fun z => vp_in z 100) E19 (rOK_keep (P := fun z => vp_in z 100) E9 hf_pt (by omega)) (by omega)) d_Model_lay_29 ?_
  refine gw_nS (fun S29 E29 => ?_)
  refine gw_aload_n (pc := 30) F 0 d_Model_lay_30 rfl rfl ?_
  refine rg_Model_partColour (pc := 31) F tw_434 d_Model_lay_31 ?_
  refine gw_aload_n (pc := 34) F 0 d_Model_lay_34 rfl rfl ?_
  refine rg_Model_parts (pc := 35) F tw_430 d_Model_lay_35 ?_
  refine gw_iload (pc := 38) F 4 d_Model_lay_38 rfl ?_
  refine rs_MPc (pc := 40) F (rOK_keep (P := fun z => vp_in z 100) E29 (rOK_keep (P := fun z => vp_in z 100) E19 (rOK_keep (P := fun z => vp_in z 100) E9 hf_pt (by omega)) (by omega)) (by omega)) d_Model_lay_40 ?_
  refine gw_nS (fun S40 E40 => ?_)
  refine gw_aload_n (pc := 41) F 0 d_Model_lay_41 rfl rfl ?_
  refine rg_Model_partWithin (pc := 42) F tw_435 d_Model_lay_42 ?_
  refine gw_aload_n (pc := 45) F 0 d_Model_lay_45 rfl rfl ?_
  refine rg_Model_parts (pc := 46) F tw_430 d_Model_lay_46 ?_
  refine gw_iload (pc := 49) F 5 d_Model_lay_49 rfl ?_
  refine rs_MPw (pc := 51) F (rOK_keep (P := fun z => vp_in z 100) E40 (rOK_keep (P := fun z => vp_in z 100) E29 (rOK_keep (P := fun z => vp_in z 100) E19 (rOK_keep (P := fun z => vp_in z 100) E9 hf_pt (by omega)) (by omega)) (by omega)) (by omega)) d_Model_lay_51 ?_
  refine gw_nS (fun S51 E51 => ?_)
  refine gw_aload_n (pc := 52) F 0 d_Model_lay_52 rfl rfl ?_
  refine gw_dup (pc := 53) F d_Model_lay_53 rfl ?_
  refine rg_Model_parts (pc := 54) F tw_430 d_Model_lay_54 ?_
  refine gw_iconst (pc := 57) (v := (1 : Int32)) F d_Model_lay_57 (by decide) ?_
  refine gw_iadd (pc := 58) F d_Model_lay_58 ?_
  refine rp_Model_parts (pc := 59) F tw_430 d_Model_lay_59 ?_
  refine gw_nS (fun S59 E59 => ?_)
  exact gw_vret (pc := 62) F d_Model_lay_62
theorem rb_lay23 (S : gw_S) (a1 a2 a3 a4 a5 : Int32) : (f_Model_lay S a1 a2 a3 a4 a5).2 0 23 = S 0 23 + (1 : Int32) := by
  simp only [f_Model_lay, gw_n]
  simp [gw_u, va_up, upd]
theorem rb_lay16 (S : gw_S) (a1 a2 a3 a4 a5 : Int32) : (f_Model_lay S a1 a2 a3 a4 a5).2 16 = upd (S 16) (S 0 23).toNatClampNeg a5 := by
  simp only [f_Model_lay, gw_n]
  funext q
  simp [gw_u, va_up, upd]
set_option maxHeartbeats 4000000 in
set_option maxRecDepth 100000 in
theorem po_at_Model_lay   (S : gw_S) (a1 : Int32) (a2 : Int32) (a3 : Int32) (a4 : Int32) (a5 : Int32) (hf_at : vp_in (S 0 18) 1024) (hb1 : vp_in a1 1024) : vp_in ((f_Model_lay S a1 a2 a3 a4 a5).2 0 18) 1024 := by
  unfold f_Model_lay
  refine po_n (Φ := fun p : Unit × gw_S => vp_in (p.2 0 18) 1024) (fun S9 E9 => ?_)
  refine po_n (Φ := fun p : Unit × gw_S => vp_in (p.2 0 18) 1024) (fun S19 E19 => ?_)
  refine po_n (Φ := fun p : Unit × gw_S => vp_in (p.2 0 18) 1024) (fun S29 E29 => ?_)
  refine po_n (Φ := fun p : Unit × gw_S => vp_in (p.2 0 18) 1024) (fun S40 E40 => ?_)
  refine po_n (Φ := fun p : Unit × gw_S => vp_in (p.2 0 18) 1024) (fun S51 E51 => ?_)
  refine po_n (Φ := fun p : Unit × gw_S => vp_in (p.2 0 18) 1024) (fun S59 E59 => ?_)
  exact (rOK_keep (P := fun z => vp_in z 1024) E59 (rOK_keep (P := fun z => vp_in z 1024) E51 (rOK_keep (P := fun z => vp_in z 1024) E40 (rOK_keep (P := fun z => vp_in z 1024) E29 (rOK_keep (P := fun z => vp_in z 1024) E19 (rOK_keep (P := fun z => vp_in z 1024) E9 hf_at (by omega)) (by omega)) (by omega)) (by omega)) (by omega)) (by omega))
set_option maxHeartbeats 4000000 in
set_option maxRecDepth 100000 in
theorem po_ok_Model_lay   (S : gw_S) (a1 : Int32) (a2 : Int32) (a3 : Int32) (a4 : Int32) (a5 : Int32) (hf_ok : rOK S) (hb1 : vp_in a1 1024) : rOK (f_Model_lay S a1 a2 a3 a4 a5).2 := by
  unfold f_Model_lay
  refine po_n (Φ := fun p : Unit × gw_S => rOK p.2) (fun S9 E9 => ?_)
  refine po_n (Φ := fun p : Unit × gw_S => rOK p.2) (fun S19 E19 => ?_)
  refine po_n (Φ := fun p : Unit × gw_S => rOK p.2) (fun S29 E29 => ?_)
  refine po_n (Φ := fun p : Unit × gw_S => rOK p.2) (fun S40 E40 => ?_)
  refine po_n (Φ := fun p : Unit × gw_S => rOK p.2) (fun S51 E51 => ?_)
  refine po_n (Φ := fun p : Unit × gw_S => rOK p.2) (fun S59 E59 => ?_)
  exact (rOK_f E59 (rOK_c E51 (rOK_c E40 (rOK_c E29 (rOK_c E19 (rOK_pl E9 hf_ok (by omega) hb1) (by omega)) (by omega)) (by omega)) (by omega)) (by omega))
set_option maxHeartbeats 4000000 in
set_option maxRecDepth 100000 in
theorem po_dz_Model_lay {δ : Int32}   (S : gw_S) (a1 : Int32) (a2 : Int32) (a3 : Int32) (a4 : Int32) (a5 : Int32) (hf_dz : S 0 21 = δ) (hb1 : vp_in a1 1024) : (f_Model_lay S a1 a2 a3 a4 a5).2 0 21 = δ := by
  unfold f_Model_lay
  refine po_n (Φ := fun p : Unit × gw_S => p.2 0 21 = δ) (fun S9 E9 => ?_)
  refine po_n (Φ := fun p : Unit × gw_S => p.2 0 21 = δ) (fun S19 E19 => ?_)
  refine po_n (Φ := fun p : Unit × gw_S => p.2 0 21 = δ) (fun S29 E29 => ?_)
  refine po_n (Φ := fun p : Unit × gw_S => p.2 0 21 = δ) (fun S40 E40 => ?_)
  refine po_n (Φ := fun p : Unit × gw_S => p.2 0 21 = δ) (fun S51 E51 => ?_)
  refine po_n (Φ := fun p : Unit × gw_S => p.2 0 21 = δ) (fun S59 E59 => ?_)
  exact (rOK_keep (P := fun z => z = δ) E59 (rOK_keep (P := fun z => z = δ) E51 (rOK_keep (P := fun z => z = δ) E40 (rOK_keep (P := fun z => z = δ) E29 (rOK_keep (P := fun z => z = δ) E19 (rOK_keep (P := fun z => z = δ) E9 hf_dz (by omega)) (by omega)) (by omega)) (by omega)) (by omega)) (by omega))
set_option maxHeartbeats 4000000 in
set_option maxRecDepth 100000 in
theorem po_nz_Model_lay {ν : Int32}   (S : gw_S) (a1 : Int32) (a2 : Int32) (a3 : Int32) (a4 : Int32) (a5 : Int32) (hf_nz : S 0 14 = ν) (hb1 : vp_in a1 1024) : (f_Model_lay S a1 a2 a3 a4 a5).2 0 14 = ν := by
  unfold f_Model_lay
  refine po_n (Φ := fun p : Unit × gw_S => p.2 0 14 = ν) (fun S9 E9 => ?_)
  refine po_n (Φ := fun p : Unit × gw_S => p.2 0 14 = ν) (fun S19 E19 => ?_)
  refine po_n (Φ := fun p : Unit × gw_S => p.2 0 14 = ν) (fun S29 E29 => ?_)
  refine po_n (Φ := fun p : Unit × gw_S => p.2 0 14 = ν) (fun S40 E40 => ?_)
  refine po_n (Φ := fun p : Unit × gw_S => p.2 0 14 = ν) (fun S51 E51 => ?_)
  refine po_n (Φ := fun p : Unit × gw_S => p.2 0 14 = ν) (fun S59 E59 => ?_)
  exact (rOK_keep (P := fun z => z = ν) E59 (rOK_keep (P := fun z => z = ν) E51 (rOK_keep (P := fun z => z = ν) E40 (rOK_keep (P := fun z => z = ν) E29 (rOK_keep (P := fun z => z = ν) E19 (rOK_keep (P := fun z => z = ν) E9 hf_nz (by omega)) (by omega)) (by omega)) (by omega)) (by omega)) (by omega))
noncomputable def f_Model_swap   (S : gw_S) (a1 : Int32) (a2 : Int32) : Unit × gw_S := (gw_n (S 12 (a1 : Int32).toNatClampNeg) fun v6 => gw_n (S 13 (a1 : Int32).toNatClampNeg) fun v13 => gw_n (S 14 (a1 : Int32).toNatClampNeg) fun v21 => gw_n (S 15 (a1 : Int32).toNatClampNeg) fun v29 => gw_n (gw_u S 12 (a1 : Int32).toNatClampNeg (S 12 (a2 : Int32).toNatClampNeg)) fun S42 => gw_n (gw_u S42 13 (a1 : Int32).toNatClampNeg (S42 13 (a2 : Int32).toNatClampNeg)) fun S54 => gw_n (gw_u S54 14 (a1 : Int32).toNatClampNeg (S54 14 (a2 : Int32).toNatClampNeg)) fun S66 => gw_n (gw_u S66 15 (a1 : Int32).toNatClampNeg (S66 15 (a2 : Int32).toNatClampNeg)) fun S78 => gw_n (gw_u S78 12 (a2 : Int32).toNatClampNeg v6) fun S85 => gw_n (gw_u S85 13 (a2 : Int32).toNatClampNeg v13) fun S93 => gw_n (gw_u S93 14 (a2 : Int32).toNatClampNeg v21) fun S101 => gw_n (gw_u S101 15 (a2 : Int32).toNatClampNeg v29) fun S109 => ((), S109))
set_option maxHeartbeats 4000000 in
set_option maxRecDepth 100000 in
theorem c_Model_swap (hJ : gw_J 20 ad)   (S : gw_S) (a1 : Int32) (a2 : Int32) (hb1 : vp_in a1 100) (hb2 : vp_in a2 100) : gw_M l y_Model_swap prog_8_method_37_code 7 none gTs (gw_rm 0) D gCl (gTys cI cB cC cZ) 20 ad (rE ad cI cB cZ) gw_rV [.ref (ad 0), .int a1, .int a2] S (f_Model_swap S a1 a2) := by
  refine gw_start gTs_ok (plainFor_of_name (by decide)) hJ (Nat.le_of_ble_eq_true rfl) (fun X A F => ?_)
  refine gw_lve (lv' := [(0, .ref (ad 0)), (1, .int a1), (2, .int a2)]) rfl ?_
  unfold f_Model_swap
  refine gw_aload_n (pc := 0) F 0 d_Model_swap_0 rfl rfl ?_
  refine rg_Model_partAt (pc := 1) F tw_431 d_Model_swap_1 ?_
  refine gw_iload_n (pc := 4) F 1 d_Model_swap_4 rfl rfl ?_
  refine rl_MPa (pc := 5) F hb1 d_Model_swap_5 ?_
  refine gw_nI (fun v6 e6 => ?_)
  refine gw_istore_n (pc := 6) (lv' := [(3, .int v6), (0, .ref (ad 0)), (1, .int a1), (2, .int a2)]) F d_Model_swap_6 rfl (by decide) rfl ?_
  refine gw_aload_n (pc := 7) F 1 d_Model_swap_7 rfl rfl ?_
  refine rg_Model_partX (pc := 8) F tw_432 d_Model_swap_8 ?_
  refine gw_iload_n (pc := 11) F 2 d_Model_swap_11 rfl rfl ?_
  refine rl_MPx (pc := 12) F hb1 d_Model_swap_12 ?_
  refine gw_nI (fun v13 e13 => ?_)
  refine gw_istore (pc := 13) (lv' := [(4, .int v13), (3, .int v6), (0, .ref (ad 0)), (1, .int a1), (2, .int a2)]) F d_Model_swap_13 (by decide) rfl ?_
  refine gw_aload_n (pc := 15) F 2 d_Model_swap_15 rfl rfl ?_
  refine rg_Model_partY (pc := 16) F tw_433 d_Model_swap_16 ?_
  refine gw_iload_n (pc := 19) F 3 d_Model_swap_19 rfl rfl ?_
  refine rl_MPy (pc := 20) F hb1 d_Model_swap_20 ?_
  refine gw_nI (fun v21 e21 => ?_)
  refine gw_istore (pc := 21) (lv' := [(5, .int v21), (4, .int v13), (3, .int v6), (0, .ref (ad 0)), (1, .int a1), (2, .int a2)]) F d_Model_swap_21 (by decide) rfl ?_
  refine gw_aload_n (pc := 23) F 3 d_Model_swap_23 rfl rfl ?_
  refine rg_Model_partColour (pc := 24) F tw_434 d_Model_swap_24 ?_
  refine gw_iload_n (pc := 27) F 4 d_Model_swap_27 rfl rfl ?_
  refine rl_MPc (pc := 28) F hb1 d_Model_swap_28 ?_
  refine gw_nI (fun v29 e29 => ?_)
  refine gw_istore (pc := 29) (lv' := [(6, .int v29), (5, .int v21), (4, .int v13), (3, .int v6), (0, .ref (ad 0)), (1, .int a1), (2, .int a2)]) F d_Model_swap_29 (by decide) rfl ?_
  refine gw_aload_n (pc := 31) F 4 d_Model_swap_31 rfl rfl ?_
  refine rg_Model_partAt (pc := 32) F tw_431 d_Model_swap_32 ?_
  refine gw_iload_n (pc := 35) F 5 d_Model_swap_35 rfl rfl ?_
  refine gw_aload_n (pc := 36) F 4 d_Model_swap_36 rfl rfl ?_
  refine rg_Model_partAt (pc := 37) F tw_431 d_Model_swap_37 ?_
  refine gw_iload_n (pc := 40) F 6 d_Model_swap_40 rfl rfl ?_
  refine rl_MPa (pc := 41) F hb2 d_Model_swap_41 ?_
  refine rs_MPa (pc := 42) F hb1 d_Model_swap_42 ?_
  refine gw_nS (fun S42 E42 => ?_)
  refine gw_aload_n (pc := 43) F 4 d_Model_swap_43 rfl rfl ?_
  refine rg_Model_partX (pc := 44) F tw_432 d_Model_swap_44 ?_
  refine gw_iload_n (pc := 47) F 5 d_Model_swap_47 rfl rfl ?_
  refine gw_aload_n (pc := 48) F 4 d_Model_swap_48 rfl rfl ?_
  refine rg_Model_partX (pc := 49) F tw_432 d_Model_swap_49 ?_
  refine gw_iload_n (pc := 52) F 6 d_Model_swap_52 rfl rfl ?_
  refine rl_MPx (pc := 53) F hb2 d_Model_swap_53 ?_
  refine rs_MPx (pc := 54) F hb1 d_Model_swap_54 ?_
  refine gw_nS (fun S54 E54 => ?_)
  refine gw_aload_n (pc := 55) F 4 d_Model_swap_55 rfl rfl ?_
  refine rg_Model_partY (pc := 56) F tw_433 d_Model_swap_56 ?_
  refine gw_iload_n (pc := 59) F 5 d_Model_swap_59 rfl rfl ?_
  refine gw_aload_n (pc := 60) F 4 d_Model_swap_60 rfl rfl ?_
  refine rg_Model_partY (pc := 61) F tw_433 d_Model_swap_61 ?_
  refine gw_iload_n (pc := 64) F 6 d_Model_swap_64 rfl rfl ?_
  refine rl_MPy (pc := 65) F hb2 d_Model_swap_65 ?_
  refine rs_MPy (pc := 66) F hb1 d_Model_swap_66 ?_
  refine gw_nS (fun S66 E66 => ?_)
  refine gw_aload_n (pc := 67) F 4 d_Model_swap_67 rfl rfl ?_
  refine rg_Model_partColour (pc := 68) F tw_434 d_Model_swap_68 ?_
  refine gw_iload_n (pc := 71) F 5 d_Model_swap_71 rfl rfl ?_
  refine gw_aload_n (pc := 72) F 4 d_Model_swap_72 rfl rfl ?_
  refine rg_Model_partColour (pc := 73) F tw_434 d_Model_swap_73 ?_
  refine gw_iload_n (pc := 76) F 6 d_Model_swap_76 rfl rfl ?_
  refine rl_MPc (pc := 77) F hb2 d_Model_swap_77 ?_
  refine rs_MPc (pc := 78) F hb1 d_Model_swap_78 ?_
  refine gw_nS (fun S78 E78 => ?_)
  refine gw_aload_n (pc := 79) F 4 d_Model_swap_79 rfl rfl ?_
  refine rg_Model_partAt (pc := 80) F tw_431 d_Model_swap_80 ?_
  refine gw_iload_n (pc := 83) F 6 d_Model_swap_83 rfl rfl ?_
  refine gw_iload_n (pc := 84) F 3 d_Model_swap_84 rfl rfl ?_
  refine rs_MPa (pc := 85) F hb2 d_Model_swap_85 ?_
  refine gw_nS (fun S85 E85 => ?_)
  refine gw_aload_n (pc := 86) F 4 d_Model_swap_86 rfl rfl ?_
  refine rg_Model_partX (pc := 87) F tw_432 d_Model_swap_87 ?_
  refine gw_iload_n (pc := 90) F 6 d_Model_swap_90 rfl rfl ?_
  refine gw_iload (pc := 91) F 2 d_Model_swap_91 rfl ?_
  refine rs_MPx (pc := 93) F hb2 d_Model_swap_93 ?_
  refine gw_nS (fun S93 E93 => ?_)
  refine gw_aload_n (pc := 94) F 4 d_Model_swap_94 rfl rfl ?_
  refine rg_Model_partY (pc := 95) F tw_433 d_Model_swap_95 ?_
  refine gw_iload_n (pc := 98) F 6 d_Model_swap_98 rfl rfl ?_
  refine gw_iload (pc := 99) F 1 d_Model_swap_99 rfl ?_
  refine rs_MPy (pc := 101) F hb2 d_Model_swap_101 ?_
  refine gw_nS (fun S101 E101 => ?_)
  refine gw_aload_n (pc := 102) F 4 d_Model_swap_102 rfl rfl ?_
  refine rg_Model_partColour (pc := 103) F tw_434 d_Model_swap_103 ?_
  refine gw_iload_n (pc := 106) F 6 d_Model_swap_106 rfl rfl ?_
  refine gw_iload (pc := 107) F 0 d_Model_swap_107 rfl ?_
  refine rs_MPc (pc := 109) F hb2 d_Model_swap_109 ?_
  refine gw_nS (fun S109 E109 => ?_)
  exact gw_vret (pc := 110) F d_Model_swap_110
set_option maxHeartbeats 4000000 in
set_option maxRecDepth 100000 in
theorem po_at_Model_swap   (S : gw_S) (a1 : Int32) (a2 : Int32) (hf_at : vp_in (S 0 18) 1024) (hb1 : vp_in a1 100) (hb2 : vp_in a2 100) : vp_in ((f_Model_swap S a1 a2).2 0 18) 1024 := by
  unfold f_Model_swap
  refine po_n (Φ := fun p : Unit × gw_S => vp_in (p.2 0 18) 1024) (fun v6 e6 => ?_)
  refine po_n (Φ := fun p : Unit × gw_S => vp_in (p.2 0 18) 1024) (fun v13 e13 => ?_)
  refine po_n (Φ := fun p : Unit × gw_S => vp_in (p.2 0 18) 1024) (fun v21 e21 => ?_)
  refine po_n (Φ := fun p : Unit × gw_S => vp_in (p.2 0 18) 1024) (fun v29 e29 => ?_)
  refine po_n (Φ := fun p : Unit × gw_S => vp_in (p.2 0 18) 1024) (fun S42 E42 => ?_)
  refine po_n (Φ := fun p : Unit × gw_S => vp_in (p.2 0 18) 1024) (fun S54 E54 => ?_)
  refine po_n (Φ := fun p : Unit × gw_S => vp_in (p.2 0 18) 1024) (fun S66 E66 => ?_)
  refine po_n (Φ := fun p : Unit × gw_S => vp_in (p.2 0 18) 1024) (fun S78 E78 => ?_)
  refine po_n (Φ := fun p : Unit × gw_S => vp_in (p.2 0 18) 1024) (fun S85 E85 => ?_)
  refine po_n (Φ := fun p : Unit × gw_S => vp_in (p.2 0 18) 1024) (fun S93 E93 => ?_)
  refine po_n (Φ := fun p : Unit × gw_S => vp_in (p.2 0 18) 1024) (fun S101 E101 => ?_)
  refine po_n (Φ := fun p : Unit × gw_S => vp_in (p.2 0 18) 1024) (fun S109 E109 => ?_)
  exact (rOK_keep (P := fun z => vp_in z 1024) E109 (rOK_keep (P := fun z => vp_in z 1024) E101 (rOK_keep (P := fun z => vp_in z 1024) E93 (rOK_keep (P := fun z => vp_in z 1024) E85 (rOK_keep (P := fun z => vp_in z 1024) E78 (rOK_keep (P := fun z => vp_in z 1024) E66 (rOK_keep (P := fun z => vp_in z 1024) E54 (rOK_keep (P := fun z => vp_in z 1024) E42 hf_at (by omega)) (by omega)) (by omega)) (by omega)) (by omega)) (by omega)) (by omega)) (by omega))
set_option maxHeartbeats 4000000 in
set_option maxRecDepth 100000 in
theorem po_ok_Model_swap   (S : gw_S) (a1 : Int32) (a2 : Int32) (hf_ok : rOK S) (hb1 : vp_in a1 100) (hb2 : vp_in a2 100) : rOK (f_Model_swap S a1 a2).2 := by
  unfold f_Model_swap
  refine po_n (Φ := fun p : Unit × gw_S => rOK p.2) (fun v6 e6 => ?_)
  refine po_n (Φ := fun p : Unit × gw_S => rOK p.2) (fun v13 e13 => ?_)
  refine po_n (Φ := fun p : Unit × gw_S => rOK p.2) (fun v21 e21 => ?_)
  refine po_n (Φ := fun p : Unit × gw_S => rOK p.2) (fun v29 e29 => ?_)
  refine po_n (Φ := fun p : Unit × gw_S => rOK p.2) (fun S42 E42 => ?_)
  refine po_n (Φ := fun p : Unit × gw_S => rOK p.2) (fun S54 E54 => ?_)
  refine po_n (Φ := fun p : Unit × gw_S => rOK p.2) (fun S66 E66 => ?_)
  refine po_n (Φ := fun p : Unit × gw_S => rOK p.2) (fun S78 E78 => ?_)
  refine po_n (Φ := fun p : Unit × gw_S => rOK p.2) (fun S85 E85 => ?_)
  refine po_n (Φ := fun p : Unit × gw_S => rOK p.2) (fun S93 E93 => ?_)
  refine po_n (Φ := fun p : Unit × gw_S => rOK p.2) (fun S101 E101 => ?_)
  refine po_n (Φ := fun p : Unit × gw_S => rOK p.2) (fun S109 E109 => ?_)
  exact (rOK_c E109 (rOK_c E101 (rOK_c E93 (rOK_pl E85 (rOK_c E78 (rOK_c E66 (rOK_c E54 (rOK_pl E42 hf_ok (by omega) ((hf_ok 12 _).2.2.2.2.1 (by omega))) (by omega)) (by omega)) (by omega)) (by omega) (gw_inE e6 ((hf_ok 12 _).2.2.2.2.1 (by omega)))) (by omega)) (by omega)) (by omega))
set_option maxHeartbeats 4000000 in
set_option maxRecDepth 100000 in
theorem po_pz_Model_swap {ζ : Int32}   (S : gw_S) (a1 : Int32) (a2 : Int32) (hf_pz : S 0 23 = ζ) (hb1 : vp_in a1 100) (hb2 : vp_in a2 100) : (f_Model_swap S a1 a2).2 0 23 = ζ := by
  unfold f_Model_swap
  refine po_n (Φ := fun p : Unit × gw_S => p.2 0 23 = ζ) (fun v6 e6 => ?_)
  refine po_n (Φ := fun p : Unit × gw_S => p.2 0 23 = ζ) (fun v13 e13 => ?_)
  refine po_n (Φ := fun p : Unit × gw_S => p.2 0 23 = ζ) (fun v21 e21 => ?_)
  refine po_n (Φ := fun p : Unit × gw_S => p.2 0 23 = ζ) (fun v29 e29 => ?_)
  refine po_n (Φ := fun p : Unit × gw_S => p.2 0 23 = ζ) (fun S42 E42 => ?_)
  refine po_n (Φ := fun p : Unit × gw_S => p.2 0 23 = ζ) (fun S54 E54 => ?_)
  refine po_n (Φ := fun p : Unit × gw_S => p.2 0 23 = ζ) (fun S66 E66 => ?_)
  refine po_n (Φ := fun p : Unit × gw_S => p.2 0 23 = ζ) (fun S78 E78 => ?_)
  refine po_n (Φ := fun p : Unit × gw_S => p.2 0 23 = ζ) (fun S85 E85 => ?_)
  refine po_n (Φ := fun p : Unit × gw_S => p.2 0 23 = ζ) (fun S93 E93 => ?_)
  refine po_n (Φ := fun p : Unit × gw_S => p.2 0 23 = ζ) (fun S101 E101 => ?_)
  refine po_n (Φ := fun p : Unit × gw_S => p.2 0 23 = ζ) (fun S109 E109 => ?_)
  exact (rOK_keep (P := fun z => z = ζ) E109 (rOK_keep (P := fun z => z = ζ) E101 (rOK_keep (P := fun z => z = ζ) E93 (rOK_keep (P := fun z => z = ζ) E85 (rOK_keep (P := fun z => z = ζ) E78 (rOK_keep (P := fun z => z = ζ) E66 (rOK_keep (P := fun z => z = ζ) E54 (rOK_keep (P := fun z => z = ζ) E42 hf_pz (by omega)) (by omega)) (by omega)) (by omega)) (by omega)) (by omega)) (by omega)) (by omega))
set_option maxHeartbeats 4000000 in
set_option maxRecDepth 100000 in
theorem po_dz_Model_swap {δ : Int32}   (S : gw_S) (a1 : Int32) (a2 : Int32) (hf_dz : S 0 21 = δ) (hb1 : vp_in a1 100) (hb2 : vp_in a2 100) : (f_Model_swap S a1 a2).2 0 21 = δ := by
  unfold f_Model_swap
  refine po_n (Φ := fun p : Unit × gw_S => p.2 0 21 = δ) (fun v6 e6 => ?_)
  refine po_n (Φ := fun p : Unit × gw_S => p.2 0 21 = δ) (fun v13 e13 => ?_)
  refine po_n (Φ := fun p : Unit × gw_S => p.2 0 21 = δ) (fun v21 e21 => ?_)
  refine po_n (Φ := fun p : Unit × gw_S => p.2 0 21 = δ) (fun v29 e29 => ?_)
  refine po_n (Φ := fun p : Unit × gw_S => p.2 0 21 = δ) (fun S42 E42 => ?_)
  refine po_n (Φ := fun p : Unit × gw_S => p.2 0 21 = δ) (fun S54 E54 => ?_)
  refine po_n (Φ := fun p : Unit × gw_S => p.2 0 21 = δ) (fun S66 E66 => ?_)
  refine po_n (Φ := fun p : Unit × gw_S => p.2 0 21 = δ) (fun S78 E78 => ?_)
  refine po_n (Φ := fun p : Unit × gw_S => p.2 0 21 = δ) (fun S85 E85 => ?_)
  refine po_n (Φ := fun p : Unit × gw_S => p.2 0 21 = δ) (fun S93 E93 => ?_)
  refine po_n (Φ := fun p : Unit × gw_S => p.2 0 21 = δ) (fun S101 E101 => ?_)
  refine po_n (Φ := fun p : Unit × gw_S => p.2 0 21 = δ) (fun S109 E109 => ?_)
  exact (rOK_keep (P := fun z => z = δ) E109 (rOK_keep (P := fun z => z = δ) E101 (rOK_keep (P := fun z => z = δ) E93 (rOK_keep (P := fun z => z = δ) E85 (rOK_keep (P := fun z => z = δ) E78 (rOK_keep (P := fun z => z = δ) E66 (rOK_keep (P := fun z => z = δ) E54 (rOK_keep (P := fun z => z = δ) E42 hf_dz (by omega)) (by omega)) (by omega)) (by omega)) (by omega)) (by omega)) (by omega)) (by omega))
set_option maxHeartbeats 4000000 in
set_option maxRecDepth 100000 in
theorem po_wz_Model_swap {ω : Nat → Int32}   (S : gw_S) (a1 : Int32) (a2 : Int32) (hf_wz : S 16 = ω) (hb1 : vp_in a1 100) (hb2 : vp_in a2 100) : (f_Model_swap S a1 a2).2 16 = ω := by
  unfold f_Model_swap
  refine po_n (Φ := fun p : Unit × gw_S => p.2 16 = ω) (fun v6 e6 => ?_)
  refine po_n (Φ := fun p : Unit × gw_S => p.2 16 = ω) (fun v13 e13 => ?_)
  refine po_n (Φ := fun p : Unit × gw_S => p.2 16 = ω) (fun v21 e21 => ?_)
  refine po_n (Φ := fun p : Unit × gw_S => p.2 16 = ω) (fun v29 e29 => ?_)
  refine po_n (Φ := fun p : Unit × gw_S => p.2 16 = ω) (fun S42 E42 => ?_)
  refine po_n (Φ := fun p : Unit × gw_S => p.2 16 = ω) (fun S54 E54 => ?_)
  refine po_n (Φ := fun p : Unit × gw_S => p.2 16 = ω) (fun S66 E66 => ?_)
  refine po_n (Φ := fun p : Unit × gw_S => p.2 16 = ω) (fun S78 E78 => ?_)
  refine po_n (Φ := fun p : Unit × gw_S => p.2 16 = ω) (fun S85 E85 => ?_)
  refine po_n (Φ := fun p : Unit × gw_S => p.2 16 = ω) (fun S93 E93 => ?_)
  refine po_n (Φ := fun p : Unit × gw_S => p.2 16 = ω) (fun S101 E101 => ?_)
  refine po_n (Φ := fun p : Unit × gw_S => p.2 16 = ω) (fun S109 E109 => ?_)
  exact (rWk E109 (rWk E101 (rWk E93 (rWk E85 (rWk E78 (rWk E66 (rWk E54 (rWk E42 hf_wz (by omega)) (by omega)) (by omega)) (by omega)) (by omega)) (by omega)) (by omega)) (by omega))
set_option maxHeartbeats 4000000 in
set_option maxRecDepth 100000 in
theorem po_st_Model_swap   (S : gw_S) (a1 : Int32) (a2 : Int32) (hf_st : rST S) (hb1 : vp_in a1 100) (hb2 : vp_in a2 100) : rST (f_Model_swap S a1 a2).2 := by
  unfold f_Model_swap
  refine po_n (Φ := fun p : Unit × gw_S => rST p.2) (fun v6 e6 => ?_)
  refine po_n (Φ := fun p : Unit × gw_S => rST p.2) (fun v13 e13 => ?_)
  refine po_n (Φ := fun p : Unit × gw_S => rST p.2) (fun v21 e21 => ?_)
  refine po_n (Φ := fun p : Unit × gw_S => rST p.2) (fun v29 e29 => ?_)
  refine po_n (Φ := fun p : Unit × gw_S => rST p.2) (fun S42 E42 => ?_)
  refine po_n (Φ := fun p : Unit × gw_S => rST p.2) (fun S54 E54 => ?_)
  refine po_n (Φ := fun p : Unit × gw_S => rST p.2) (fun S66 E66 => ?_)
  refine po_n (Φ := fun p : Unit × gw_S => rST p.2) (fun S78 E78 => ?_)
  refine po_n (Φ := fun p : Unit × gw_S => rST p.2) (fun S85 E85 => ?_)
  refine po_n (Φ := fun p : Unit × gw_S => rST p.2) (fun S93 E93 => ?_)
  refine po_n (Φ := fun p : Unit × gw_S => rST p.2) (fun S101 E101 => ?_)
  refine po_n (Φ := fun p : Unit × gw_S => rST p.2) (fun S109 E109 => ?_)
  exact (rSTk E109 (rSTk E101 (rSTk E93 (rSTk E85 (rSTk E78 (rSTk E66 (rSTk E54 (rSTk E42 hf_st (by omega) (by omega)) (by omega) (by omega)) (by omega) (by omega)) (by omega) (by omega)) (by omega) (by omega)) (by omega) (by omega)) (by omega) (by omega)) (by omega) (by omega))
set_option maxHeartbeats 4000000 in
set_option maxRecDepth 100000 in
theorem po_nz_Model_swap {ν : Int32}   (S : gw_S) (a1 : Int32) (a2 : Int32) (hf_nz : S 0 14 = ν) (hb1 : vp_in a1 100) (hb2 : vp_in a2 100) : (f_Model_swap S a1 a2).2 0 14 = ν := by
  unfold f_Model_swap
  refine po_n (Φ := fun p : Unit × gw_S => p.2 0 14 = ν) (fun v6 e6 => ?_)
  refine po_n (Φ := fun p : Unit × gw_S => p.2 0 14 = ν) (fun v13 e13 => ?_)
  refine po_n (Φ := fun p : Unit × gw_S => p.2 0 14 = ν) (fun v21 e21 => ?_)
  refine po_n (Φ := fun p : Unit × gw_S => p.2 0 14 = ν) (fun v29 e29 => ?_)
  refine po_n (Φ := fun p : Unit × gw_S => p.2 0 14 = ν) (fun S42 E42 => ?_)
  refine po_n (Φ := fun p : Unit × gw_S => p.2 0 14 = ν) (fun S54 E54 => ?_)
  refine po_n (Φ := fun p : Unit × gw_S => p.2 0 14 = ν) (fun S66 E66 => ?_)
  refine po_n (Φ := fun p : Unit × gw_S => p.2 0 14 = ν) (fun S78 E78 => ?_)
  refine po_n (Φ := fun p : Unit × gw_S => p.2 0 14 = ν) (fun S85 E85 => ?_)
  refine po_n (Φ := fun p : Unit × gw_S => p.2 0 14 = ν) (fun S93 E93 => ?_)
  refine po_n (Φ := fun p : Unit × gw_S => p.2 0 14 = ν) (fun S101 E101 => ?_)
  refine po_n (Φ := fun p : Unit × gw_S => p.2 0 14 = ν) (fun S109 E109 => ?_)
  exact (rOK_keep (P := fun z => z = ν) E109 (rOK_keep (P := fun z => z = ν) E101 (rOK_keep (P := fun z => z = ν) E93 (rOK_keep (P := fun z => z = ν) E85 (rOK_keep (P := fun z => z = ν) E78 (rOK_keep (P := fun z => z = ν) E66 (rOK_keep (P := fun z => z = ν) E54 (rOK_keep (P := fun z => z = ν) E42 hf_nz (by omega)) (by omega)) (by omega)) (by omega)) (by omega)) (by omega)) (by omega)) (by omega))
end
