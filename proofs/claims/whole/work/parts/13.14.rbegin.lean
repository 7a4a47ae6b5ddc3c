section
variable {l : Launch} {D : va_G} {cI cB cC cZ : ClassId} {ad : Nat → Nat}
noncomputable def f_Model_begin   (S : gw_S) (a1 : Int32) : Unit × gw_S := (gw_n (gw_u S 0 21 ((S 0 21) + (1 : Int32))) fun S7 => gw_n (gw_u S7 0 16 ((S7 0 16) + (1 : Int32))) fun S17 => gw_n (gw_u S17 0 29 (S17 12 (a1 : Int32).toNatClampNeg)) fun S27 => gw_b (f_Model_read S27) fun r31 S31 => if r31 < (192 : Int32) then (if r31 = (2 : Int32) then (if (5 : Int32) ≤ (S31 16 (a1 : Int32).toNatClampNeg) then (((), S31)) else (gw_b (f_Model_group S31 (S31 13 (a1 : Int32).toNatClampNeg) (S31 14 (a1 : Int32).toNatClampNeg) (S31 15 (a1 : Int32).toNatClampNeg) (S31 16 (a1 : Int32).toNatClampNeg)) fun _ S124 => ((), S124))) else (((), S31))) else (if (S31 15 (a1 : Int32).toNatClampNeg) = (-1 : Int32) then (gw_b (f_Model_polygon S31 (S31 13 (a1 : Int32).toNatClampNeg) (S31 14 (a1 : Int32).toNatClampNeg) (r31 &&& (15 : Int32))) fun _ S78 => ((), S78)) else (gw_b (f_Model_polygon S31 (S31 13 (a1 : Int32).toNatClampNeg) (S31 14 (a1 : Int32).toNatClampNeg) (S31 15 (a1 : Int32).toNatClampNeg)) fun _ S78 => ((), S78))))
set_option maxHeartbeats 4000000 in
set_option maxRecDepth 100000 in
theorem c_Model_begin (hJ : gw_J 20 ad)   (S : gw_S) (a1 : Int32) (hf_ok : rOK S) (hb1 : vp_in a1 100) (hp : S 0 23 = a1) (hst : rSTp S a1) : gw_M l y_Model_begin prog_8_method_35_code 3 none gTs (gw_rm 4) D gCl (gTys cI cB cC cZ) 20 ad (rE ad cI cB cZ) gw_rV [.ref (ad 0), .int a1] S (f_Model_begin S a1) := by
  refine gw_start gTs_ok (plainFor_of_name (by decide)) hJ (Nat.le_of_ble_eq_true rfl) (fun X A F => ?_)
  refine gw_lve (lv' := [(0, .ref (ad 0)), (1, .int a1)]) rfl ?_
  unfold f_Model_begin
  refine gw_aload_n (pc := 0) F 0 d_Model_begin_0 rfl rfl ?_
  refine gw_dup (pc := 1) F d_Model_begin_1 rfl ?_
  refine rg_Model_drawn (pc := 2) F tw_428 d_Model_begin_2 ?_
  refine gw_iconst (pc := 5) (v := (1 : Int32)) F d_Model_begin_5 (by decide) ?_
  refine gw_iadd (pc := 6) F d_Model_begin_6 ?_
  refine rp_Model_drawn (pc := 7) F tw_428 d_Model_begin_7 ?_
  refine gw_nS (fun S7 E7 => ?_)
  refine gw_aload_n (pc := 10) F 0 d_Model_begin_10 rfl rfl ?_
  refine gw_dup (pc := 11) F d_Model_begin_11 rfl ?_
  refine rg_Model_begun (pc := 12) F tw_423 d_Model_begin_12 ?_
  refine gw_iconst (pc := 15) (v := (1 : Int32)) F d_Model_begin_15 (by decide) ?_
  refine gw_iadd (pc := 16) F d_Model_begin_16 ?_
  refine rp_Model_begun (pc := 17) F tw_423 d_Model_begin_17 ?_
  refine gw_nS (fun S17 E17 => ?_)
  refine gw_aload_n (pc := 20) F 0 d_Model_begin_20 rfl rfl ?_
  refine gw_aload_n (pc := 21) F 0 d_Model_begin_21 rfl rfl ?_
  refine rg_Model_partAt (pc := 22) F tw_431 d_Model_begin_22 ?_
  refine gw_iload_n (pc := 25) F 1 d_Model_begin_25 rfl rfl ?_
  refine rl_MPa (pc := 26) F hb1 d_Model_begin_26 ?_
  refine rp_Model_reading (pc := 27) F tw_436 d_Model_begin_27 ?_
  refine gw_nS (fun S27 E27 => ?_)
  refine gw_aload_n (pc := 30) F 0 d_Model_begin_30 rfl rfl ?_
  refine gw_cV (pc := 31) (As := []) (rest := []) F (c_Model_read (gw_FJ F) S27 (rOK_rd E27 (rOK_f E17 (rOK_f E7 hf_ok (by omega)) (by omega)) (((rOK_f E17 (rOK_f E7 hf_ok (by omega)) (by omega)) 12 _).2.2.2.2.1 (by omega)))) cw_Model_read cv_Model_read tw_625 rfl (by decide) (by decide) (by decide) rE_Model rfl rfl rfl rfl (Nat.le_of_ble_eq_true rfl) d_Model_begin_31 (gw_bI (P := fun r U => rOK U ∧ U 0 23 = a1 ∧ U 16 = (S 16)) ⟨(po_ok_Model_read S27 (rOK_rd E27 (rOK_f E17 (rOK_f E7 hf_ok (by omega)) (by omega)) (((rOK_f E17 (rOK_f E7 hf_ok (by omega)) (by omega)) 12 _).2.2.2.2.1 (by omega)))), (po_pz_Model_read S27 (rOK_keep (P := fun z => z = a1) E27 (rOK_keep (P := fun z => z = a1) E17 (rOK_keep (P := fun z => z = a1) E7 hp (by omega)) (by omega)) (by omega))), (po_wz_Model_read S27 (rWk E27 (rWk E17 (rWk E7 rfl (by omega)) (by omega)) (by omega)))⟩ (fun r31 S31 p31 => ?_))
  refine gw_istore_n (pc := 34) (lv' := [(2, .int r31), (0, .ref (ad 0)), (1, .int a1)]) F d_Model_begin_34 rfl (by decide) rfl ?_
  refine gw_iload_n (pc := 35) F 0 d_Model_begin_35 rfl rfl ?_
  refine gw_sipush (pc := 36) (v := (192 : Int32)) F d_Model_begin_36 (by decide) ?_
  refine gw_icmp_ltS (pc := 39) (tgt := 84) F d_Model_begin_39 (by decide) (fun h39 => ?_) (fun h39 => ?_)
  · refine gw_iload_n (pc := 84) F 0 d_Model_begin_84 rfl rfl ?_
    refine gw_iconst (pc := 85) (v := (2 : Int32)) F d_Model_begin_85 (by decide) ?_
    refine gw_icmp_neS (pc := 86) (tgt := 127) F d_Model_begin_86 (by decide) (fun h86 => ?_) (fun h86 => ?_)
    · exact gw_vret (pc := 127) F d_Model_begin_127
    · refine gw_aload_n (pc := 89) F 1 d_Model_begin_89 rfl rfl ?_
      refine rg_Model_partWithin (pc := 90) F tw_435 d_Model_begin_90 ?_
      refine gw_iload_n (pc := 93) F 2 d_Model_begin_93 rfl rfl ?_
      refine rl_MPw (pc := 94) F hb1 d_Model_begin_94 ?_
      refine gw_iconst (pc := 95) (v := (5 : Int32)) F d_Model_begin_95 (by decide) ?_
      refine gw_icmp_geS (pc := 96) (tgt := 127) F d_Model_begin_96 (by decide) (fun h96 => ?_) (fun h96 => ?_)
      · exact gw_vret (pc := 127) F d_Model_begin_127
      · refine gw_aload_n (pc := 99) F 1 d_Model_begin_99 rfl rfl ?_
        refine gw_aload_n (pc := 100) F 1 d_Model_begin_100 rfl rfl ?_
        refine rg_Model_partX (pc := 101) F tw_432 d_Model_begin_101 ?_
        refine gw_iload_n (pc := 104) F 2 d_Model_begin_104 rfl rfl ?_
        refine rl_MPx (pc := 105) F hb1 d_Model_begin_105 ?_
        refine gw_aload_n (pc := 106) F 1 d_Model_begin_106 rfl rfl ?_
        refine rg_Model_partY (pc := 107) F tw_433 d_Model_begin_107 ?_
        refine gw_iload_n (pc := 110) F 2 d_Model_begin_110 rfl rfl ?_
        refine rl_MPy (pc := 111) F hb1 d_Model_begin_111 ?_
        refine gw_aload_n (pc := 112) F 1 d_Model_begin_112 rfl rfl ?_
        refine rg_Model_partColour (pc := 113) F tw_434 d_Model_begin_113 ?_
        refine gw_iload_n (pc := 116) F 2 d_Model_begin_116 rfl rfl ?_
        refine rl_MPc (pc := 117) F hb1 d_Model_begin_117 ?_
        refine gw_aload_n (pc := 118) F 1 d_Model_begin_118 rfl rfl ?_
        refine rg_Model_partWithin (pc := 119) F tw_435 d_Model_begin_119 ?_
        refine gw_iload_n (pc := 122) F 2 d_Model_begin_122 rfl rfl ?_
        refine rl_MPw (pc := 123) F hb1 d_Model_begin_123 ?_
        refine gw_cV (pc := 124) (As := [.int (S31 13 (a1 : Int32).toNatClampNeg), .int (S31 14 (a1 : Int32).toNatClampNeg), .int (S31 15 (a1 : Int32).toNatClampNeg), .int (S31 16 (a1 : Int32).toNatClampNeg)]) (rest := []) F (c_Model_group (gw_FJ F) S31 (S31 13 (a1 : Int32).toNatClampNeg) (S31 14 (a1 : Int32).toNatClampNeg) (S31 15 (a1 : Int32).toNatClampNeg) (S31 16 (a1 : Int32).toNatClampNeg) p31.1 (rb_g8 p31.2.1 p31.2.2 rfl h96 hb1 hst) (rb_gs p31.2.1 p31.2.2 rfl h96 hst)) cw_Model_group cv_Model_group tw_651 rfl (by decide) (by decide) (by decide) rE_Model rfl rfl rfl rfl (Nat.le_of_ble_eq_true rfl) d_Model_begin_124 (gw_bV (P := fun _ U => rOK U) (po_ok_Model_group S31 (S31 13 (a1 : Int32).toNatClampNeg) (S31 14 (a1 : Int32).toNatClampNeg) (S31 15 (a1 : Int32).toNatClampNeg) (S31 16 (a1 : Int32).toNatClampNeg) p31.1 (rb_g8 p31.2.1 p31.2.2 rfl h96 hb1 hst) (rb_gs p31.2.1 p31.2.2 rfl h96 hst)) (fun _ S124 p124 => ?_))
        exact gw_vret (pc := 127) F d_Model_begin_127
  · refine gw_aload_n (pc := 42) F 1 d_Model_begin_42 rfl rfl ?_
    refine gw_aload_n (pc := 43) F 1 d_Model_begin_43 rfl rfl ?_
    refine rg_Model_partX (pc := 44) F tw_432 d_Model_begin_44 ?_
    refine gw_iload_n (pc := 47) F 2 d_Model_begin_47 rfl rfl ?_
    refine rl_MPx (pc := 48) F hb1 d_Model_begin_48 ?_
    refine gw_aload_n (pc := 49) F 1 d_Model_begin_49 rfl rfl ?_
    refine rg_Model_partY (pc := 50) F tw_433 d_Model_begin_50 ?_
    refine gw_iload_n (pc := 53) F 2 d_Model_begin_53 rfl rfl ?_
    refine rl_MPy (pc := 54) F hb1 d_Model_begin_54 ?_
    refine gw_aload_n (pc := 55) F 1 d_Model_begin_55 rfl rfl ?_
    refine rg_Model_partColour (pc := 56) F tw_434 d_Model_begin_56 ?_
    refine gw_iload_n (pc := 59) F 2 d_Model_begin_59 rfl rfl ?_
    refine rl_MPc (pc := 60) F hb1 d_Model_begin_60 ?_
    refine gw_iconst (pc := 61) (v := (-1 : Int32)) F d_Model_begin_61 (by decide) ?_
    refine gw_icmp_neS (pc := 62) (tgt := 72) F d_Model_begin_62 (by decide) (fun h62 => ?_) (fun h62 => ?_)
    · refine gw_aload_n (pc := 72) F 1 d_Model_begin_72 rfl rfl ?_
      refine rg_Model_partColour (pc := 73) F tw_434 d_Model_begin_73 ?_
      refine gw_iload_n (pc := 76) F 2 d_Model_begin_76 rfl rfl ?_
      refine rl_MPc (pc := 77) F hb1 d_Model_begin_77 ?_
      refine gw_cV (pc := 78) (As := [.int (S31 13 (a1 : Int32).toNatClampNeg), .int (S31 14 (a1 : Int32).toNatClampNeg), .int (S31 15 (a1 : Int32).toNatClampNeg)]) (rest := []) F (c_Model_polygon (gw_FJ F) S31 (S31 13 (a1 : Int32).toNatClampNeg) (S31 14 (a1 : Int32).toNatClampNeg) (S31 15 (a1 : Int32).toNatClampNeg) p31.1) cw_Model_polygon cv_Model_polygon tw_629 rfl (by decide) (by decide) (by decide) rE_Model rfl rfl rfl rfl (Nat.le_of_ble_eq_true rfl) d_Model_begin_78 (gw_bV (P := fun _ U => rOK U ∧ U 0 23 = a1 ∧ U 16 = (S 16)) ⟨(po_ok_Model_polygon S31 (S31 13 (a1 : Int32).toNatClampNeg) (S31 14 (a1 : Int32).toNatClampNeg) (S31 15 (a1 : Int32).toNatClampNeg) p31.1), (po_pz_Model_polygon S31 (S31 13 (a1 : Int32).toNatClampNeg) (S31 14 (a1 : Int32).toNatClampNeg) (S31 15 (a1 : Int32).toNatClampNeg) p31.2.1), (po_wz_Model_polygon S31 (S31 13 (a1 : Int32).toNatClampNeg) (S31 14 (a1 : Int32).toNatClampNeg) (S31 15 (a1 : Int32).toNatClampNeg) p31.2.2)⟩ (fun _ S78 p78 => ?_))
      refine gw_goto (pc := 81) (tgt := 127) F d_Model_begin_81 (by decide) ?_
      exact gw_vret (pc := 127) F d_Model_begin_127
    · refine gw_iload_n (pc := 65) F 0 d_Model_begin_65 rfl rfl ?_
      refine gw_bipush (pc := 66) (v := (15 : Int32)) F d_Model_begin_66 (by decide) ?_
      refine gw_iand (pc := 68) F d_Model_begin_68 ?_
      refine gw_goto (pc := 69) (tgt := 78) F d_Model_begin_69 (by decide) ?_
      refine gw_cV (pc := 78) (As := [.int (S31 13 (a1 : Int32).toNatClampNeg), .int (S31 14 (a1 : Int32).toNatClampNeg), .int (r31 &&& (15 : Int32))]) (rest := []) F (c_Model_polygon (gw_FJ F) S31 (S31 13 (a1 : Int32).toNatClampNeg) (S31 14 (a1 : Int32).toNatClampNeg) (r31 &&& (15 : Int32)) p31.1) cw_Model_polygon cv_Model_polygon tw_629 rfl (by decide) (by decide) (by decide) rE_Model rfl rfl rfl rfl (Nat.le_of_ble_eq_true rfl) d_Model_begin_78 (gw_bV (P := fun _ U => rOK U ∧ U 0 23 = a1 ∧ U 16 = (S 16)) ⟨(po_ok_Model_polygon S31 (S31 13 (a1 : Int32).toNatClampNeg) (S31 14 (a1 : Int32).toNatClampNeg) (r31 &&& (15 : Int32)) p31.1), (po_pz_Model_polygon S31 (S31 13 (a1 : Int32).toNatClampNeg) (S31 14 (a1 : Int32).toNatClampNeg) (r31 &&& (15 : Int32)) p31.2.1), (po_wz_Model_polygon S31 (S31 13 (a1 : Int32).toNatClampNeg) (S31 14 (a1 : Int32).toNatClampNeg) (r31 &&& (15 : Int32)) p31.2.2)⟩ (fun _ S78 p78 => ?_))
      refine gw_goto (pc := 81) (tgt := 127) F d_Model_begin_81 (by decide) ?_
      exact gw_vret (pc := 127) F d_Model_begin_127
set_option maxHeartbeats 4000000 in
set_option maxRecDepth 100000 in
theorem po_ok_Model_begin   (S : gw_S) (a1 : Int32) (hf_ok : rOK S) (hb1 : vp_in a1 100) (hp : S 0 23 = a1) (hst : rSTp S a1) : rOK (f_Model_begin S a1).2 := by
  unfold f_Model_begin
  refine po_n (Φ := fun p : Unit × gw_S => rOK p.2) (fun S7 E7 => ?_)
  refine po_n (Φ := fun p : Unit × gw_S => rOK p.2) (fun S17 E17 => ?_)
  refine po_n (Φ := fun p : Unit × gw_S => rOK p.2) (fun S27 E27 => ?_)
  refine po_b (Φ := fun p : Unit × gw_S => rOK p.2) (P := fun r U => rOK U ∧ U 0 23 = a1 ∧ U 16 = (S 16)) ⟨(po_ok_Model_read S27 (rOK_rd E27 (rOK_f E17 (rOK_f E7 hf_ok (by omega)) (by omega)) (((rOK_f E17 (rOK_f E7 hf_ok (by omega)) (by omega)) 12 _).2.2.2.2.1 (by omega)))), (po_pz_Model_read S27 (rOK_keep (P := fun z => z = a1) E27 (rOK_keep (P := fun z => z = a1) E17 (rOK_keep (P := fun z => z = a1) E7 hp (by omega)) (by omega)) (by omega))), (po_wz_Model_read S27 (rWk E27 (rWk E17 (rWk E7 rfl (by omega)) (by omega)) (by omega)))⟩ (fun r31 S31 p31 => ?_)
  refine po_if (Φ := fun p : Unit × gw_S => rOK p.2) (fun h39 => ?_) (fun h39 => ?_)
  · refine po_if (Φ := fun p : Unit × gw_S => rOK p.2) (fun h86 => ?_) (fun h86 => ?_)
    · refine po_if (Φ := fun p : Unit × gw_S => rOK p.2) (fun h96 => ?_) (fun h96 => ?_)
      · exact p31.1
      · refine po_b (Φ := fun p : Unit × gw_S => rOK p.2) (P := fun _ U => rOK U) (po_ok_Model_group S31 (S31 13 (a1 : Int32).toNatClampNeg) (S31 14 (a1 : Int32).toNatClampNeg) (S31 15 (a1 : Int32).toNatClampNeg) (S31 16 (a1 : Int32).toNatClampNeg) p31.1 (rb_g8 p31.2.1 p31.2.2 rfl h96 hb1 hst) (rb_gs p31.2.1 p31.2.2 rfl h96 hst)) (fun _ S124 p124 => ?_)
        exact p124
    · exact p31.1
  · refine po_if (Φ := fun p : Unit × gw_S => rOK p.2) (fun h62 => ?_) (fun h62 => ?_)
    · refine po_b (Φ := fun p : Unit × gw_S => rOK p.2) (P := fun _ U => rOK U ∧ U 0 23 = a1 ∧ U 16 = (S 16)) ⟨(po_ok_Model_polygon S31 (S31 13 (a1 : Int32).toNatClampNeg) (S31 14 (a1 : Int32).toNatClampNeg) (r31 &&& (15 : Int32)) p31.1), (po_pz_Model_polygon S31 (S31 13 (a1 : Int32).toNatClampNeg) (S31 14 (a1 : Int32).toNatClampNeg) (r31 &&& (15 : Int32)) p31.2.1), (po_wz_Model_polygon S31 (S31 13 (a1 : Int32).toNatClampNeg) (S31 14 (a1 : Int32).toNatClampNeg) (r31 &&& (15 : Int32)) p31.2.2)⟩ (fun _ S78 p78 => ?_)
      exact p78.1
    · refine po_b (Φ := fun p : Unit × gw_S => rOK p.2) (P := fun _ U => rOK U ∧ U 0 23 = a1 ∧ U 16 = (S 16)) ⟨(po_ok_Model_polygon S31 (S31 13 (a1 : Int32).toNatClampNeg) (S31 14 (a1 : Int32).toNatClampNeg) (S31 15 (a1 : Int32).toNatClampNeg) p31.1), (po_pz_Model_polygon S31 (S31 13 (a1 : Int32).toNatClampNeg) (S31 14 (a1 : Int32).toNatClampNeg) (S31 15 (a1 : Int32).toNatClampNeg) p31.2.1), (po_wz_Model_polygon S31 (S31 13 (a1 : Int32).toNatClampNeg) (S31 14 (a1 : Int32).toNatClampNeg) (S31 15 (a1 : Int32).toNatClampNeg) p31.2.2)⟩ (fun _ S78 p78 => ?_)
      exact p78.1
set_option maxHeartbeats 4000000 in
set_option maxRecDepth 100000 in
theorem po_st_Model_begin   (S : gw_S) (a1 : Int32) (hf_st : rST S) (hf_ok : rOK S) (hb1 : vp_in a1 100) (hp : S 0 23 = a1) (hst : rSTp S a1) : rST (f_Model_begin S a1).2 := by
  unfold f_Model_begin
  refine po_n (Φ := fun p : Unit × gw_S => rST p.2) (fun S7 E7 => ?_)
  refine po_n (Φ := fun p : Unit × gw_S => rST p.2) (fun S17 E17 => ?_)
  refine po_n (Φ := fun p : Unit × gw_S => rST p.2) (fun S27 E27 => ?_)
  refine po_b (Φ := fun p : Unit × gw_S => rST p.2) (P := fun r U => rOK U ∧ U 0 23 = a1 ∧ U 16 = (S 16) ∧ rST U) ⟨(po_ok_Model_read S27 (rOK_rd E27 (rOK_f E17 (rOK_f E7 hf_ok (by omega)) (by omega)) (((rOK_f E17 (rOK_f E7 hf_ok (by omega)) (by omega)) 12 _).2.2.2.2.1 (by omega)))), (po_pz_Model_read S27 (rOK_keep (P := fun z => z = a1) E27 (rOK_keep (P := fun z => z = a1) E17 (rOK_keep (P := fun z => z = a1) E7 hp (by omega)) (by omega)) (by omega))), (po_wz_Model_read S27 (rWk E27 (rWk E17 (rWk E7 rfl (by omega)) (by omega)) (by omega))), (po_st_Model_read S27 (rSTk E27 (rSTk E17 (rSTk E7 hf_st (by omega) (by omega)) (by omega) (by omega)) (by omega) (by omega)))⟩ (fun r31 S31 p31 => ?_)
  refine po_if (Φ := fun p : Unit × gw_S => rST p.2) (fun h39 => ?_) (fun h39 => ?_)
  · refine po_if (Φ := fun p : Unit × gw_S => rST p.2) (fun h86 => ?_) (fun h86 => ?_)
    · refine po_if (Φ := fun p : Unit × gw_S => rST p.2) (fun h96 => ?_) (fun h96 => ?_)
      · exact p31.2.2.2
      · refine po_b (Φ := fun p : Unit × gw_S => rST p.2) (P := fun _ U => rOK U ∧ rST U) ⟨(po_ok_Model_group S31 (S31 13 (a1 : Int32).toNatClampNeg) (S31 14 (a1 : Int32).toNatClampNeg) (S31 15 (a1 : Int32).toNatClampNeg) (S31 16 (a1 : Int32).toNatClampNeg) p31.1 (rb_g8 p31.2.1 p31.2.2.1 rfl h96 hb1 hst) (rb_gs p31.2.1 p31.2.2.1 rfl h96 hst)), (po_st_Model_group S31 (S31 13 (a1 : Int32).toNatClampNeg) (S31 14 (a1 : Int32).toNatClampNeg) (S31 15 (a1 : Int32).toNatClampNeg) (S31 16 (a1 : Int32).toNatClampNeg) p31.2.2.2 p31.1 (rb_g8 p31.2.1 p31.2.2.1 rfl h96 hb1 hst) (rb_gs p31.2.1 p31.2.2.1 rfl h96 hst))⟩ (fun _ S124 p124 => ?_)
        exact p124.2
    · exact p31.2.2.2
  · refine po_if (Φ := fun p : Unit × gw_S => rST p.2) (fun h62 => ?_) (fun h62 => ?_)
    · refine po_b (Φ := fun p : Unit × gw_S => rST p.2) (P := fun _ U => rOK U ∧ U 0 23 = a1 ∧ U 16 = (S 16) ∧ rST U) ⟨(po_ok_Model_polygon S31 (S31 13 (a1 : Int32).toNatClampNeg) (S31 14 (a1 : Int32).toNatClampNeg) (r31 &&& (15 : Int32)) p31.1), (po_pz_Model_polygon S31 (S31 13 (a1 : Int32).toNatClampNeg) (S31 14 (a1 : Int32).toNatClampNeg) (r31 &&& (15 : Int32)) p31.2.1), (po_wz_Model_polygon S31 (S31 13 (a1 : Int32).toNatClampNeg) (S31 14 (a1 : Int32).toNatClampNeg) (r31 &&& (15 : Int32)) p31.2.2.1), (po_st_Model_polygon S31 (S31 13 (a1 : Int32).toNatClampNeg) (S31 14 (a1 : Int32).toNatClampNeg) (r31 &&& (15 : Int32)) p31.2.2.2)⟩ (fun _ S78 p78 => ?_)
      exact p78.2.2.2
    · refine po_b (Φ := fun p : Unit × gw_S => rST p.2) (P := fun _ U => rOK U ∧ U 0 23 = a1 ∧ U 16 = (S 16) ∧ rST U) ⟨(po_ok_Model_polygon S31 (S31 13 (a1 : Int32).toNatClampNeg) (S31 14 (a1 : Int32).toNatClampNeg) (S31 15 (a1 : Int32).toNatClampNeg) p31.1), (po_pz_Model_polygon S31 (S31 13 (a1 : Int32).toNatClampNeg) (S31 14 (a1 : Int32).toNatClampNeg) (S31 15 (a1 : Int32).toNatClampNeg) p31.2.1), (po_wz_Model_polygon S31 (S31 13 (a1 : Int32).toNatClampNeg) (S31 14 (a1 : Int32).toNatClampNeg) (S31 15 (a1 : Int32).toNatClampNeg) p31.2.2.1), (po_st_Model_polygon S31 (S31 13 (a1 : Int32).toNatClampNeg) (S31 14 (a1 : Int32).toNatClampNeg) (S31 15 (a1 : Int32).toNatClampNeg) p31.2.2.2)⟩ (fun _ S78 p78 => ?_)
      exact p78.2.2.2
set_option maxHeartbeats 4000000 in
set_option maxRecDepth 100000 in
theorem po_at_Model_begin   (S : gw_S) (a1 : Int32) (hf_at : vp_in (S 0 18) 1024) (hf_ok : rOK S) (hb1 : vp_in a1 100) (hp : S 0 23 = a1) (hst : rSTp S a1) : vp_in ((f_Model_begin S a1).2 0 18) 1024 := by
  unfold f_Model_begin
  refine po_n (Φ := fun p : Unit × gw_S => vp_in (p.2 0 18) 1024) (fun S7 E7 => ?_)
  refine po_n (Φ := fun p : Unit × gw_S => vp_in (p.2 0 18) 1024) (fun S17 E17 => ?_)
  refine po_n (Φ := fun p : Unit × gw_S => vp_in (p.2 0 18) 1024) (fun S27 E27 => ?_)
  refine po_b (Φ := fun p : Unit × gw_S => vp_in (p.2 0 18) 1024) (P := fun r U => vp_in (U 0 18) 1024 ∧ rOK U ∧ U 0 23 = a1 ∧ U 16 = (S 16)) ⟨(po_at_Model_read S27 (rOK_keep (P := fun z => vp_in z 1024) E27 (rOK_keep (P := fun z => vp_in z 1024) E17 (rOK_keep (P := fun z => vp_in z 1024) E7 hf_at (by omega)) (by omega)) (by omega))), (po_ok_Model_read S27 (rOK_rd E27 (rOK_f E17 (rOK_f E7 hf_ok (by omega)) (by omega)) (((rOK_f E17 (rOK_f E7 hf_ok (by omega)) (by omega)) 12 _).2.2.2.2.1 (by omega)))), (po_pz_Model_read S27 (rOK_keep (P := fun z => z = a1) E27 (rOK_keep (P := fun z => z = a1) E17 (rOK_keep (P := fun z => z = a1) E7 hp (by omega)) (by omega)) (by omega))), (po_wz_Model_read S27 (rWk E27 (rWk E17 (rWk E7 rfl (by omega)) (by omega)) (by omega)))⟩ (fun r31 S31 p31 => ?_)
  refine po_if (Φ := fun p : Unit × gw_S => vp_in (p.2 0 18) 1024) (fun h39 => ?_) (fun h39 => ?_)
  · refine po_if (Φ := fun p : Unit × gw_S => vp_in (p.2 0 18) 1024) (fun h86 => ?_) (fun h86 => ?_)
    · refine po_if (Φ := fun p : Unit × gw_S => vp_in (p.2 0 18) 1024) (fun h96 => ?_) (fun h96 => ?_)
      · exact p31.1
      · refine po_b (Φ := fun p : Unit × gw_S => vp_in (p.2 0 18) 1024) (P := fun _ U => rOK U ∧ vp_in (U 0 18) 1024) ⟨(po_ok_Model_group S31 (S31 13 (a1 : Int32).toNatClampNeg) (S31 14 (a1 : Int32).toNatClampNeg) (S31 15 (a1 : Int32).toNatClampNeg) (S31 16 (a1 : Int32).toNatClampNeg) p31.2.1 (rb_g8 p31.2.2.1 p31.2.2.2 rfl h96 hb1 hst) (rb_gs p31.2.2.1 p31.2.2.2 rfl h96 hst)), (po_at_Model_group S31 (S31 13 (a1 : Int32).toNatClampNeg) (S31 14 (a1 : Int32).toNatClampNeg) (S31 15 (a1 : Int32).toNatClampNeg) (S31 16 (a1 : Int32).toNatClampNeg) p31.1 p31.2.1 (rb_g8 p31.2.2.1 p31.2.2.2 rfl h96 hb1 hst) (rb_gs p31.2.2.1 p31.2.2.2 rfl h96 hst))⟩ (fun _ S124 p124 => ?_)
        exact p124.2
    · exact p31.1
  · refine po_if (Φ := fun p : Unit × gw_S => vp_in (p.2 0 18) 1024) (fun h62 => ?_) (fun h62 => ?_)
    · refine po_b (Φ := fun p : Unit × gw_S => vp_in (p.2 0 18) 1024) (P := fun _ U => rOK U ∧ vp_in (U 0 18) 1024 ∧ U 0 23 = a1 ∧ U 16 = (S 16)) ⟨(po_ok_Model_polygon S31 (S31 13 (a1 : Int32).toNatClampNeg) (S31 14 (a1 : Int32).toNatClampNeg) (r31 &&& (15 : Int32)) p31.2.1), (po_at_Model_polygon S31 (S31 13 (a1 : Int32).toNatClampNeg) (S31 14 (a1 : Int32).toNatClampNeg) (r31 &&& (15 : Int32)) p31.1), (po_pz_Model_polygon S31 (S31 13 (a1 : Int32).toNatClampNeg) (S31 14 (a1 : Int32).toNatClampNeg) (r31 &&& (15 : Int32)) p31.2.2.1), (po_wz_Model_polygon S31 (S31 13 (a1 : Int32).toNatClampNeg) (S31 14 (a1 : Int32).toNatClampNeg) (r31 &&& (15 : Int32)) p31.2.2.2)⟩ (fun _ S78 p78 => ?_)
      exact p78.2.1
    · refine po_b (Φ := fun p : Unit × gw_S => vp_in (p.2 0 18) 1024) (P := fun _ U => rOK U ∧ vp_in (U 0 18) 1024 ∧ U 0 23 = a1 ∧ U 16 = (S 16)) ⟨(po_ok_Model_polygon S31 (S31 13 (a1 : Int32).toNatClampNeg) (S31 14 (a1 : Int32).toNatClampNeg) (S31 15 (a1 : Int32).toNatClampNeg) p31.2.1), (po_at_Model_polygon S31 (S31 13 (a1 : Int32).toNatClampNeg) (S31 14 (a1 : Int32).toNatClampNeg) (S31 15 (a1 : Int32).toNatClampNeg) p31.1), (po_pz_Model_polygon S31 (S31 13 (a1 : Int32).toNatClampNeg) (S31 14 (a1 : Int32).toNatClampNeg) (S31 15 (a1 : Int32).toNatClampNeg) p31.2.2.1), (po_wz_Model_polygon S31 (S31 13 (a1 : Int32).toNatClampNeg) (S31 14 (a1 : Int32).toNatClampNeg) (S31 15 (a1 : Int32).toNatClampNeg) p31.2.2.2)⟩ (fun _ S78 p78 => ?_)
      exact p78.2.1
set_option maxHeartbeats 4000000 in
set_option maxRecDepth 100000 in
theorem po_nz_Model_begin {ν : Int32}   (S : gw_S) (a1 : Int32) (hf_nz : S 0 14 = ν) (hf_ok : rOK S) (hb1 : vp_in a1 100) (hp : S 0 23 = a1) (hst : rSTp S a1) : (f_Model_begin S a1).2 0 14 = ν := by
  unfold f_Model_begin
  refine po_n (Φ := fun p : Unit × gw_S => p.2 0 14 = ν) (fun S7 E7 => ?_)
  refine po_n (Φ := fun p : Unit × gw_S => p.2 0 14 = ν) (fun S17 E17 => ?_)
  refine po_n (Φ := fun p : Unit × gw_S => p.2 0 14 = ν) (fun S27 E27 => ?_)
  refine po_b (Φ := fun p : Unit × gw_S => p.2 0 14 = ν) (P := fun r U => rOK U ∧ U 0 23 = a1 ∧ U 16 = (S 16) ∧ U 0 14 = ν) ⟨(po_ok_Model_read S27 (rOK_rd E27 (rOK_f E17 (rOK_f E7 hf_ok (by omega)) (by omega)) (((rOK_f E17 (rOK_f E7 hf_ok (by omega)) (by omega)) 12 _).2.2.2.2.1 (by omega)))), (po_pz_Model_read S27 (rOK_keep (P := fun z => z = a1) E27 (rOK_keep (P := fun z => z = a1) E17 (rOK_keep (P := fun z => z = a1) E7 hp (by omega)) (by omega)) (by omega))), (po_wz_Model_read S27 (rWk E27 (rWk E17 (rWk E7 rfl (by omega)) (by omega)) (by omega))), (po_nz_Model_read S27 (rOK_keep (P := fun z => z = ν) E27 (rOK_keep (P := fun z => z = ν) E17 (rOK_keep (P := fun z => z = ν) E7 hf_nz (by omega)) (by omega)) (by omega)))⟩ (fun r31 S31 p31 => ?_)
  refine po_if (Φ := fun p : Unit × gw_S => p.2 0 14 = ν) (fun h39 => ?_) (fun h39 => ?_)
  · refine po_if (Φ := fun p : Unit × gw_S => p.2 0 14 = ν) (fun h86 => ?_) (fun h86 => ?_)
    · refine po_if (Φ := fun p : Unit × gw_S => p.2 0 14 = ν) (fun h96 => ?_) (fun h96 => ?_)
      · exact p31.2.2.2
      · refine po_b (Φ := fun p : Unit × gw_S => p.2 0 14 = ν) (P := fun _ U => rOK U ∧ U 0 14 = ν) ⟨(po_ok_Model_group S31 (S31 13 (a1 : Int32).toNatClampNeg) (S31 14 (a1 : Int32).toNatClampNeg) (S31 15 (a1 : Int32).toNatClampNeg) (S31 16 (a1 : Int32).toNatClampNeg) p31.1 (rb_g8 p31.2.1 p31.2.2.1 rfl h96 hb1 hst) (rb_gs p31.2.1 p31.2.2.1 rfl h96 hst)), (po_nz_Model_group S31 (S31 13 (a1 : Int32).toNatClampNeg) (S31 14 (a1 : Int32).toNatClampNeg) (S31 15 (a1 : Int32).toNatClampNeg) (S31 16 (a1 : Int32).toNatClampNeg) p31.2.2.2 p31.1 (rb_g8 p31.2.1 p31.2.2.1 rfl h96 hb1 hst) (rb_gs p31.2.1 p31.2.2.1 rfl h96 hst))⟩ (fun _ S124 p124 => ?_)
        exact p124.2
    · exact p31.2.2.2
  · refine po_if (Φ := fun p : Unit × gw_S => p.2 0 14 = ν) (fun h62 => ?_) (fun h62 => ?_)
    · refine po_b (Φ := fun p : Unit × gw_S => p.2 0 14 = ν) (P := fun _ U => rOK U ∧ U 0 23 = a1 ∧ U 16 = (S 16) ∧ U 0 14 = ν) ⟨(po_ok_Model_polygon S31 (S31 13 (a1 : Int32).toNatClampNeg) (S31 14 (a1 : Int32).toNatClampNeg) (r31 &&& (15 : Int32)) p31.1), (po_pz_Model_polygon S31 (S31 13 (a1 : Int32).toNatClampNeg) (S31 14 (a1 : Int32).toNatClampNeg) (r31 &&& (15 : Int32)) p31.2.1), (po_wz_Model_polygon S31 (S31 13 (a1 : Int32).toNatClampNeg) (S31 14 (a1 : Int32).toNatClampNeg) (r31 &&& (15 : Int32)) p31.2.2.1), (po_nz_Model_polygon S31 (S31 13 (a1 : Int32).toNatClampNeg) (S31 14 (a1 : Int32).toNatClampNeg) (r31 &&& (15 : Int32)) p31.2.2.2)⟩ (fun _ S78 p78 => ?_)
      exact p78.2.2.2
    · refine po_b (Φ := fun p : Unit × gw_S => p.2 0 14 = ν) (P := fun _ U => rOK U ∧ U 0 23 = a1 ∧ U 16 = (S 16) ∧ U 0 14 = ν) ⟨(po_ok_Model_polygon S31 (S31 13 (a1 : Int32).toNatClampNeg) (S31 14 (a1 : Int32).toNatClampNeg) (S31 15 (a1 : Int32).toNatClampNeg) p31.1), (po_pz_Model_polygon S31 (S31 13 (a1 : Int32).toNatClampNeg) (S31 14 (a1 : Int32).toNatClampNeg) (S31 15 (a1 : Int32).toNatClampNeg) p31.2.1), (po_wz_Model_polygon S31 (S31 13 (a1 : Int32).toNatClampNeg) (S31 14 (a1 : Int32).toNatClampNeg) (S31 15 (a1 : Int32).toNatClampNeg) p31.2.2.1), (po_nz_Model_polygon S31 (S31 13 (a1 : Int32).toNatClampNeg) (S31 14 (a1 : Int32).toNatClampNeg) (S31 15 (a1 : Int32).toNatClampNeg) p31.2.2.2)⟩ (fun _ S78 p78 => ?_)
      exact p78.2.2.2
set_option maxHeartbeats 4000000 in
set_option maxRecDepth 100000 in
theorem po_dr_Model_begin   (S : gw_S) (a1 : Int32) (hf_ok : rOK S) (hb1 : vp_in a1 100) (hp : S 0 23 = a1) (hst : rSTp S a1) : (f_Model_begin S a1).2 0 21 = (S 0 21) + (1 : Int32) := by
  unfold f_Model_begin
  refine po_n (Φ := fun p : Unit × gw_S => p.2 0 21 = (S 0 21) + (1 : Int32)) (fun S7 E7 => ?_)
  refine po_n (Φ := fun p : Unit × gw_S => p.2 0 21 = (S 0 21) + (1 : Int32)) (fun S17 E17 => ?_)
  refine po_n (Φ := fun p : Unit × gw_S => p.2 0 21 = (S 0 21) + (1 : Int32)) (fun S27 E27 => ?_)
  refine po_b (Φ := fun p : Unit × gw_S => p.2 0 21 = (S 0 21) + (1 : Int32)) (P := fun r U => rOK U ∧ U 0 23 = a1 ∧ U 0 21 = ((S 0 21) + (1 : Int32)) ∧ U 16 = (S 16)) ⟨(po_ok_Model_read S27 (rOK_rd E27 (rOK_f E17 (rOK_f E7 hf_ok (by omega)) (by omega)) (((rOK_f E17 (rOK_f E7 hf_ok (by omega)) (by omega)) 12 _).2.2.2.2.1 (by omega)))), (po_pz_Model_read S27 (rOK_keep (P := fun z => z = a1) E27 (rOK_keep (P := fun z => z = a1) E17 (rOK_keep (P := fun z => z = a1) E7 hp (by omega)) (by omega)) (by omega))), (po_dz_Model_read S27 (rOK_keep (P := fun z => z = ((S 0 21) + (1 : Int32))) E27 (rOK_keep (P := fun z => z = ((S 0 21) + (1 : Int32))) E17 (rDz E7) (by omega)) (by omega))), (po_wz_Model_read S27 (rWk E27 (rWk E17 (rWk E7 rfl (by omega)) (by omega)) (by omega)))⟩ (fun r31 S31 p31 => ?_)
  refine po_if (Φ := fun p : Unit × gw_S => p.2 0 21 = (S 0 21) + (1 : Int32)) (fun h39 => ?_) (fun h39 => ?_)
  · refine po_if (Φ := fun p : Unit × gw_S => p.2 0 21 = (S 0 21) + (1 : Int32)) (fun h86 => ?_) (fun h86 => ?_)
    · refine po_if (Φ := fun p : Unit × gw_S => p.2 0 21 = (S 0 21) + (1 : Int32)) (fun h96 => ?_) (fun h96 => ?_)
      · exact p31.2.2.1
      · refine po_b (Φ := fun p : Unit × gw_S => p.2 0 21 = (S 0 21) + (1 : Int32)) (P := fun _ U => rOK U ∧ U 0 21 = ((S 0 21) + (1 : Int32))) ⟨(po_ok_Model_group S31 (S31 13 (a1 : Int32).toNatClampNeg) (S31 14 (a1 : Int32).toNatClampNeg) (S31 15 (a1 : Int32).toNatClampNeg) (S31 16 (a1 : Int32).toNatClampNeg) p31.1 (rb_g8 p31.2.1 p31.2.2.2 rfl h96 hb1 hst) (rb_gs p31.2.1 p31.2.2.2 rfl h96 hst)), (po_dz_Model_group S31 (S31 13 (a1 : Int32).toNatClampNeg) (S31 14 (a1 : Int32).toNatClampNeg) (S31 15 (a1 : Int32).toNatClampNeg) (S31 16 (a1 : Int32).toNatClampNeg) p31.2.2.1 p31.1 (rb_g8 p31.2.1 p31.2.2.2 rfl h96 hb1 hst) (rb_gs p31.2.1 p31.2.2.2 rfl h96 hst))⟩ (fun _ S124 p124 => ?_)
        exact p124.2
    · exact p31.2.2.1
  · refine po_if (Φ := fun p : Unit × gw_S => p.2 0 21 = (S 0 21) + (1 : Int32)) (fun h62 => ?_) (fun h62 => ?_)
    · refine po_b (Φ := fun p : Unit × gw_S => p.2 0 21 = (S 0 21) + (1 : Int32)) (P := fun _ U => rOK U ∧ U 0 23 = a1 ∧ U 0 21 = ((S 0 21) + (1 : Int32)) ∧ U 16 = (S 16)) ⟨(po_ok_Model_polygon S31 (S31 13 (a1 : Int32).toNatClampNeg) (S31 14 (a1 : Int32).toNatClampNeg) (r31 &&& (15 : Int32)) p31.1), (po_pz_Model_polygon S31 (S31 13 (a1 : Int32).toNatClampNeg) (S31 14 (a1 : Int32).toNatClampNeg) (r31 &&& (15 : Int32)) p31.2.1), (po_dz_Model_polygon S31 (S31 13 (a1 : Int32).toNatClampNeg) (S31 14 (a1 : Int32).toNatClampNeg) (r31 &&& (15 : Int32)) p31.2.2.1), (po_wz_Model_polygon S31 (S31 13 (a1 : Int32).toNatClampNeg) (S31 14 (a1 : Int32).toNatClampNeg) (r31 &&& (15 : Int32)) p31.2.2.2)⟩ (fun _ S78 p78 => ?_)
      exact p78.2.2.1
    · refine po_b (Φ := fun p : Unit × gw_S => p.2 0 21 = (S 0 21) + (1 : Int32)) (P := fun _ U => rOK U ∧ U 0 23 = a1 ∧ U 0 21 = ((S 0 21) + (1 : Int32)) ∧ U 16 = (S 16)) ⟨(po_ok_Model_polygon S31 (S31 13 (a1 : Int32).toNatClampNeg) (S31 14 (a1 : Int32).toNatClampNeg) (S31 15 (a1 : Int32).toNatClampNeg) p31.1), (po_pz_Model_polygon S31 (S31 13 (a1 : Int32).toNatClampNeg) (S31 14 (a1 : Int32).toNatClampNeg) (S31 15 (a1 : Int32).toNatClampNeg) p31.2.1), (po_dz_Model_polygon S31 (S31 13 (a1 : Int32).toNatClampNeg) (S31 14 (a1 : Int32).toNatClampNeg) (S31 15 (a1 : Int32).toNatClampNeg) p31.2.2.1), (po_wz_Model_polygon S31 (S31 13 (a1 : Int32).toNatClampNeg) (S31 14 (a1 : Int32).toNatClampNeg) (S31 15 (a1 : Int32).toNatClampNeg) p31.2.2.2)⟩ (fun _ S78 p78 => ?_)
      exact p78.2.2.1
end
