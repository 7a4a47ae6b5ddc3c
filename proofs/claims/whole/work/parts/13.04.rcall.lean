section
variable {l : Launch} {D : va_G} {cI cB cC cZ : ClassId} {ad : Nat → Nat}
noncomputable def f_Model_call   (S : gw_S)  : Unit × gw_S := (gw_b (f_Model_place S) fun r1 S1 => if (S1 6 ((S1 0 17) : Int32).toNatClampNeg) = (8 : Int32) then (gw_b (f_Model_fails S1 (1 : Int32)) fun _ S21 => ((), S21)) else (gw_n (gw_u S1 11 ((((8 : Int32) * (S1 0 17)) + (S1 6 ((S1 0 17) : Int32).toNatClampNeg)) : Int32).toNatClampNeg (S1 0 18)) fun S50 => gw_n (gw_u S50 6 ((S50 0 17) : Int32).toNatClampNeg ((S50 6 ((S50 0 17) : Int32).toNatClampNeg) + (1 : Int32))) fun S63 => gw_n (gw_u S63 0 18 r1) fun S66 => ((), S66)))
set_option maxHeartbeats 4000000 in
set_option maxRecDepth 100000 in
theorem c_Model_call (hJ : gw_J 20 ad)   (S : gw_S)  (hf_at : vp_in (S 0 18) 1024) (hf_ok : rOK S) : gw_M l y_Model_call prog_8_method_18_code 2 none gTs (gw_rm 3) D gCl (gTys cI cB cC cZ) 20 ad (rE ad cI cB cZ) gw_rV [.ref (ad 0)] S (f_Model_call S) := by
  refine gw_start gTs_ok (plainFor_of_name (by decide)) hJ (Nat.le_of_ble_eq_true rfl) (fun X A F => ?_)
  refine gw_lve (lv' := [(0, .ref (ad 0))]) rfl ?_
  unfold f_Model_call
  refine gw_aload_n (pc := 0) F 0 d_Model_call_0 rfl rfl ?_
  refine gw_cV (pc := 1) (As := []) (rest := []) F (c_Model_place (gw_FJ F) S hf_at) cw_Model_place cv_Model_place tw_554 rfl (by decide) (by decide) (by decide) rE_Model rfl rfl rfl rfl (Nat.le_of_ble_eq_true rfl) d_Model_call_1 (gw_bI (P := fun r U => vp_in (U 0 18) 1024 ∧ rOK U ∧ vp_in r 1024) ⟨(po_at_Model_place S hf_at), (po_ok_Model_place S hf_ok), (rb_place S)⟩ (fun r1 S1 p1 => ?_))
  refine gw_istore_n (pc := 4) (lv' := [(1, .int r1), (0, .ref (ad 0))]) F d_Model_call_4 rfl (by decide) rfl ?_
  refine gw_aload_n (pc := 5) F 1 d_Model_call_5 rfl rfl ?_
  refine rg_Model_many (pc := 6) F tw_414 d_Model_call_6 ?_
  refine gw_aload_n (pc := 9) F 1 d_Model_call_9 rfl rfl ?_
  refine rg_Model_who (pc := 10) F tw_424 d_Model_call_10 ?_
  refine rl_MMany (pc := 13) F ((p1.2.1 0 17).2.1 rfl rfl) d_Model_call_13 ?_
  refine gw_bipush (pc := 14) (v := (8 : Int32)) F d_Model_call_14 (by decide) ?_
  refine gw_icmp_neS (pc := 16) (tgt := 25) F d_Model_call_16 (by decide) (fun h16 => ?_) (fun h16 => ?_)
  · refine gw_aload_n (pc := 25) F 1 d_Model_call_25 rfl rfl ?_
    refine rg_Model_pile (pc := 26) F tw_419 d_Model_call_26 ?_
    refine gw_bipush (pc := 29) (v := (8 : Int32)) F d_Model_call_29 (by decide) ?_
    refine gw_aload_n (pc := 31) F 1 d_Model_call_31 rfl rfl ?_
    refine rg_Model_who (pc := 32) F tw_424 d_Model_call_32 ?_
    refine gw_imul (pc := 35) F d_Model_call_35 ?_
    refine gw_aload_n (pc := 36) F 1 d_Model_call_36 rfl rfl ?_
    refine rg_Model_many (pc := 37) F tw_414 d_Model_call_37 ?_
    refine gw_aload_n (pc := 40) F 1 d_Model_call_40 rfl rfl ?_
    refine rg_Model_who (pc := 41) F tw_424 d_Model_call_41 ?_
    refine rl_MMany (pc := 44) F ((p1.2.1 0 17).2.1 rfl rfl) d_Model_call_44 ?_
    refine gw_iadd (pc := 45) F d_Model_call_45 ?_
    refine gw_aload_n (pc := 46) F 1 d_Model_call_46 rfl rfl ?_
    refine rg_Model_at (pc := 47) F tw_425 d_Model_call_47 ?_
    refine rs_MPile (pc := 50) F (rb_pile p1.2.1 h16) d_Model_call_50 ?_
    refine gw_nS (fun S50 E50 => ?_)
    refine gw_aload_n (pc := 51) F 1 d_Model_call_51 rfl rfl ?_
    refine rg_Model_many (pc := 52) F tw_414 d_Model_call_52 ?_
    refine gw_aload_n (pc := 55) F 1 d_Model_call_55 rfl rfl ?_
    refine rg_Model_who (pc := 56) F tw_424 d_Model_call_56 ?_
    refine gw_dup2 (pc := 59) F d_Model_call_59 rfl rfl ?_
    refine rl_MMany (pc := 60) F (((rOK_pl E50 p1.2.1 (by omega) p1.1) 0 17).2.1 rfl rfl) d_Model_call_60 ?_
    refine gw_iconst (pc := 61) (v := (1 : Int32)) F d_Model_call_61 (by decide) ?_
    refine gw_iadd (pc := 62) F d_Model_call_62 ?_
    refine rs_MMany (pc := 63) F (((rOK_pl E50 p1.2.1 (by omega) p1.1) 0 17).2.1 rfl rfl) d_Model_call_63 ?_
    refine gw_nS (fun S63 E63 => ?_)
    refine gw_aload_n (pc := 64) F 1 d_Model_call_64 rfl rfl ?_
    refine gw_iload_n (pc := 65) F 0 d_Model_call_65 rfl rfl ?_
    refine rp_Model_at (pc := 66) F tw_425 d_Model_call_66 ?_
    refine gw_nS (fun S66 E66 => ?_)
    exact gw_vret (pc := 69) F d_Model_call_69
  · refine gw_aload_n (pc := 19) F 1 d_Model_call_19 rfl rfl ?_
    refine gw_iconst (pc := 20) (v := (1 : Int32)) F d_Model_call_20 (by decide) ?_
    refine gw_cV (pc := 21) (As := [.int (1 : Int32)]) (rest := []) F (c_Model_fails (gw_FJ F) S1 (1 : Int32)) cw_Model_fails cv_Model_fails tw_566 rfl (by decide) (by decide) (by decide) rE_Model rfl rfl rfl rfl (Nat.le_of_ble_eq_true rfl) d_Model_call_21 (gw_bV (P := fun _ U => vp_in (U 0 18) 1024 ∧ rOK U) ⟨(po_at_Model_fails S1 (1 : Int32) p1.1), (po_ok_Model_fails S1 (1 : Int32) p1.2.1)⟩ (fun _ S21 p21 => ?_))
    exact gw_vret (pc := 24) F d_Model_call_24
set_option maxHeartbeats 4000000 in
set_option maxRecDepth 100000 in
theorem po_at_Model_call   (S : gw_S)  (hf_at : vp_in (S 0 18) 1024) (hf_ok : rOK S) : vp_in ((f_Model_call S).2 0 18) 1024 := by
  unfold f_Model_call
  refine po_b (Φ := fun p : Unit × gw_S => vp_in (p.2 0 18) 1024) (P := fun r U => vp_in (U 0 18) 1024 ∧ rOK U ∧ vp_in r 1024) ⟨(po_at_Model_place S hf_at), (po_ok_Model_place S hf_ok), (rb_place S)⟩ (fun r1 S1 p1 => ?_)
  refine po_if (Φ := fun p : Unit × gw_S => vp_in (p.2 0 18) 1024) (fun h16 => ?_) (fun h16 => ?_)
  · refine po_b (Φ := fun p : Unit × gw_S => vp_in (p.2 0 18) 1024) (P := fun _ U => vp_in (U 0 18) 1024 ∧ rOK U) ⟨(po_at_Model_fails S1 (1 : Int32) p1.1), (po_ok_Model_fails S1 (1 : Int32) p1.2.1)⟩ (fun _ S21 p21 => ?_)
    exact p21.1
  · refine po_n (Φ := fun p : Unit × gw_S => vp_in (p.2 0 18) 1024) (fun S50 E50 => ?_)
    refine po_n (Φ := fun p : Unit × gw_S => vp_in (p.2 0 18) 1024) (fun S63 E63 => ?_)
    refine po_n (Φ := fun p : Unit × gw_S => vp_in (p.2 0 18) 1024) (fun S66 E66 => ?_)
    exact (rAt_set E66 p1.2.2)
set_option maxHeartbeats 4000000 in
set_option maxRecDepth 100000 in
theorem po_ok_Model_call   (S : gw_S)  (hf_at : vp_in (S 0 18) 1024) (hf_ok : rOK S) : rOK (f_Model_call S).2 := by
  unfold f_Model_call
  refine po_b (Φ := fun p : Unit × gw_S => rOK p.2) (P := fun r U => vp_in (U 0 18) 1024 ∧ rOK U ∧ vp_in r 1024) ⟨(po_at_Model_place S hf_at), (po_ok_Model_place S hf_ok), (rb_place S)⟩ (fun r1 S1 p1 => ?_)
  refine po_if (Φ := fun p : Unit × gw_S => rOK p.2) (fun h16 => ?_) (fun h16 => ?_)
  · refine po_b (Φ := fun p : Unit × gw_S => rOK p.2) (P := fun _ U => vp_in (U 0 18) 1024 ∧ rOK U) ⟨(po_at_Model_fails S1 (1 : Int32) p1.1), (po_ok_Model_fails S1 (1 : Int32) p1.2.1)⟩ (fun _ S21 p21 => ?_)
    exact p21.2
  · refine po_n (Φ := fun p : Unit × gw_S => rOK p.2) (fun S50 E50 => ?_)
    refine po_n (Φ := fun p : Unit × gw_S => rOK p.2) (fun S63 E63 => ?_)
    refine po_n (Φ := fun p : Unit × gw_S => rOK p.2) (fun S66 E66 => ?_)
    exact (rOK_f E66 (rOK_m E63 (rOK_pl E50 p1.2.1 (by omega) p1.1) (rb_m1 E50 p1.2.1 h16)) (by omega))
set_option maxHeartbeats 4000000 in
set_option maxRecDepth 100000 in
theorem po_nz_Model_call {ν : Int32}   (S : gw_S)  (hf_nz : S 0 14 = ν) (hf_at : vp_in (S 0 18) 1024) (hf_ok : rOK S) : (f_Model_call S).2 0 14 = ν := by
  unfold f_Model_call
  refine po_b (Φ := fun p : Unit × gw_S => p.2 0 14 = ν) (P := fun r U => vp_in (U 0 18) 1024 ∧ rOK U ∧ U 0 14 = ν ∧ vp_in r 1024) ⟨(po_at_Model_place S hf_at), (po_ok_Model_place S hf_ok), (po_nz_Model_place S hf_nz), (rb_place S)⟩ (fun r1 S1 p1 => ?_)
  refine po_if (Φ := fun p : Unit × gw_S => p.2 0 14 = ν) (fun h16 => ?_) (fun h16 => ?_)
  · refine po_b (Φ := fun p : Unit × gw_S => p.2 0 14 = ν) (P := fun _ U => vp_in (U 0 18) 1024 ∧ rOK U ∧ U 0 14 = ν) ⟨(po_at_Model_fails S1 (1 : Int32) p1.1), (po_ok_Model_fails S1 (1 : Int32) p1.2.1), (po_nz_Model_fails S1 (1 : Int32) p1.2.2.1)⟩ (fun _ S21 p21 => ?_)
    exact p21.2.2
  · refine po_n (Φ := fun p : Unit × gw_S => p.2 0 14 = ν) (fun S50 E50 => ?_)
    refine po_n (Φ := fun p : Unit × gw_S => p.2 0 14 = ν) (fun S63 E63 => ?_)
    refine po_n (Φ := fun p : Unit × gw_S => p.2 0 14 = ν) (fun S66 E66 => ?_)
    exact (rOK_keep (P := fun z => z = ν) E66 (rOK_keep (P := fun z => z = ν) E63 (rOK_keep (P := fun z => z = ν) E50 p1.2.2.1 (by omega)) (by omega)) (by omega))
noncomputable def f_Model_back   (S : gw_S)  : Unit × gw_S := (if (S 6 ((S 0 17) : Int32).toNatClampNeg) = 0 then (gw_b (f_Model_fails S (2 : Int32)) fun _ S14 => ((), S14)) else (gw_n (gw_u S 6 ((S 0 17) : Int32).toNatClampNeg ((S 6 ((S 0 17) : Int32).toNatClampNeg) - (1 : Int32))) fun S30 => gw_n (gw_u S30 0 18 (S30 11 ((((8 : Int32) * (S30 0 17)) + (S30 6 ((S30 0 17) : Int32).toNatClampNeg)) : Int32).toNatClampNeg)) fun S54 => ((), S54)))
set_option maxHeartbeats 4000000 in
set_option maxRecDepth 100000 in
theorem c_Model_back (hJ : gw_J 20 ad)   (S : gw_S)  (hf_ok : rOK S) : gw_M l y_Model_back prog_8_method_19_code 1 none gTs (gw_rm 1) D gCl (gTys cI cB cC cZ) 20 ad (rE ad cI cB cZ) gw_rV [.ref (ad 0)] S (f_Model_back S) := by
  refine gw_start gTs_ok (plainFor_of_name (by decide)) hJ (Nat.le_of_ble_eq_true rfl) (fun X A F => ?_)
  refine gw_lve (lv' := [(0, .ref (ad 0))]) rfl ?_
  unfold f_Model_back
  refine gw_aload_n (pc := 0) F 0 d_Model_back_0 rfl rfl ?_
  refine rg_Model_many (pc := 1) F tw_414 d_Model_back_1 ?_
  refine gw_aload_n (pc := 4) F 0 d_Model_back_4 rfl rfl ?_
  refine rg_Model_who (pc := 5) F tw_424 d_Model_back_5 ?_
  refine rl_MMany (pc := 8) F ((hf_ok 0 17).2.1 rfl rfl) d_Model_back_8 ?_
  refine gw_if_neS (pc := 9) (tgt := 18) F d_Model_back_9 (by decide) (fun h9 => ?_) (fun h9 => ?_)
  · refine gw_aload_n (pc := 18) F 0 d_Model_back_18 rfl rfl ?_
    refine rg_Model_many (pc := 19) F tw_414 d_Model_back_19 ?_
    refine gw_aload_n (pc := 22) F 0 d_Model_back_22 rfl rfl ?_
    refine rg_Model_who (pc := 23) F tw_424 d_Model_back_23 ?_
    refine gw_dup2 (pc := 26) F d_Model_back_26 rfl rfl ?_
    refine rl_MMany (pc := 27) F ((hf_ok 0 17).2.1 rfl rfl) d_Model_back_27 ?_
    refine gw_iconst (pc := 28) (v := (1 : Int32)) F d_Model_back_28 (by decide) ?_
    refine gw_isub (pc := 29) F d_Model_back_29 ?_
    refine rs_MMany (pc := 30) F ((hf_ok 0 17).2.1 rfl rfl) d_Model_back_30 ?_
    refine gw_nS (fun S30 E30 => ?_)
    refine gw_aload_n (pc := 31) F 0 d_Model_back_31 rfl rfl ?_
    refine gw_aload_n (pc := 32) F 0 d_Model_back_32 rfl rfl ?_
    refine rg_Model_pile (pc := 33) F tw_419 d_Model_back_33 ?_
    refine gw_bipush (pc := 36) (v := (8 : Int32)) F d_Model_back_36 (by decide) ?_
    refine gw_aload_n (pc := 38) F 0 d_Model_back_38 rfl rfl ?_
    refine rg_Model_who (pc := 39) F tw_424 d_Model_back_39 ?_
    refine gw_imul (pc := 42) F d_Model_back_42 ?_
    refine gw_aload_n (pc := 43) F 0 d_Model_back_43 rfl rfl ?_
    refine rg_Model_many (pc := 44) F tw_414 d_Model_back_44 ?_
    refine gw_aload_n (pc := 47) F 0 d_Model_back_47 rfl rfl ?_
    refine rg_Model_who (pc := 48) F tw_424 d_Model_back_48 ?_
    refine rl_MMany (pc := 51) F (((rOK_m E30 hf_ok (rb_m2 hf_ok h9)) 0 17).2.1 rfl rfl) d_Model_back_51 ?_
    refine gw_iadd (pc := 52) F d_Model_back_52 ?_
    refine rl_MPile (pc := 53) F (rb_pile2 hf_ok E30 h9) d_Model_back_53 ?_
    refine rp_Model_at (pc := 54) F tw_425 d_Model_back_54 ?_
    refine gw_nS (fun S54 E54 => ?_)
    exact gw_vret (pc := 57) F d_Model_back_57
  · refine gw_aload_n (pc := 12) F 0 d_Model_back_12 rfl rfl ?_
    refine gw_iconst (pc := 13) (v := (2 : Int32)) F d_Model_back_13 (by decide) ?_
    refine gw_cV (pc := 14) (As := [.int (2 : Int32)]) (rest := []) F (c_Model_fails (gw_FJ F) S (2 : Int32)) cw_Model_fails cv_Model_fails tw_566 rfl (by decide) (by decide) (by decide) rE_Model rfl rfl rfl rfl (Nat.le_of_ble_eq_true rfl) d_Model_back_14 (gw_bV (P := fun _ U => rOK U) (po_ok_Model_fails S (2 : Int32) hf_ok) (fun _ S14 p14 => ?_))
    exact gw_vret (pc := 17) F d_Model_back_17
set_option maxHeartbeats 4000000 in
set_option maxRecDepth 100000 in
theorem po_at_Model_back   (S : gw_S)  (hf_at : vp_in (S 0 18) 1024) (hf_ok : rOK S) : vp_in ((f_Model_back S).2 0 18) 1024 := by
  unfold f_Model_back
  refine po_if (Φ := fun p : Unit × gw_S => vp_in (p.2 0 18) 1024) (fun h9 => ?_) (fun h9 => ?_)
  · refine po_b (Φ := fun p : Unit × gw_S => vp_in (p.2 0 18) 1024) (P := fun _ U => vp_in (U 0 18) 1024 ∧ rOK U) ⟨(po_at_Model_fails S (2 : Int32) hf_at), (po_ok_Model_fails S (2 : Int32) hf_ok)⟩ (fun _ S14 p14 => ?_)
    exact p14.1
  · refine po_n (Φ := fun p : Unit × gw_S => vp_in (p.2 0 18) 1024) (fun S30 E30 => ?_)
    refine po_n (Φ := fun p : Unit × gw_S => vp_in (p.2 0 18) 1024) (fun S54 E54 => ?_)
    exact (rAt_set E54 (((rOK_m E30 hf_ok (rb_m2 hf_ok h9)) 11 _).2.2.2.2.1 (by omega)))
set_option maxHeartbeats 4000000 in
set_option maxRecDepth 100000 in
theorem po_ok_Model_back   (S : gw_S)  (hf_ok : rOK S) : rOK (f_Model_back S).2 := by
  unfold f_Model_back
  refine po_if (Φ := fun p : Unit × gw_S => rOK p.2) (fun h9 => ?_) (fun h9 => ?_)
  · refine po_b (Φ := fun p : Unit × gw_S => rOK p.2) (P := fun _ U => rOK U) (po_ok_Model_fails S (2 : Int32) hf_ok) (fun _ S14 p14 => ?_)
    exact p14
  · refine po_n (Φ := fun p : Unit × gw_S => rOK p.2) (fun S30 E30 => ?_)
    refine po_n (Φ := fun p : Unit × gw_S => rOK p.2) (fun S54 E54 => ?_)
    exact (rOK_f E54 (rOK_m E30 hf_ok (rb_m2 hf_ok h9)) (by omega))
set_option maxHeartbeats 4000000 in
set_option maxRecDepth 100000 in
theorem po_nz_Model_back {ν : Int32}   (S : gw_S)  (hf_nz : S 0 14 = ν) (hf_at : vp_in (S 0 18) 1024) (hf_ok : rOK S) : (f_Model_back S).2 0 14 = ν := by
  unfold f_Model_back
  refine po_if (Φ := fun p : Unit × gw_S => p.2 0 14 = ν) (fun h9 => ?_) (fun h9 => ?_)
  · refine po_b (Φ := fun p : Unit × gw_S => p.2 0 14 = ν) (P := fun _ U => vp_in (U 0 18) 1024 ∧ rOK U ∧ U 0 14 = ν) ⟨(po_at_Model_fails S (2 : Int32) hf_at), (po_ok_Model_fails S (2 : Int32) hf_ok), (po_nz_Model_fails S (2 : Int32) hf_nz)⟩ (fun _ S14 p14 => ?_)
    exact p14.2.2
  · refine po_n (Φ := fun p : Unit × gw_S => p.2 0 14 = ν) (fun S30 E30 => ?_)
    refine po_n (Φ := fun p : Unit × gw_S => p.2 0 14 = ν) (fun S54 E54 => ?_)
    exact (rOK_keep (P := fun z => z = ν) E54 (rOK_keep (P := fun z => z = ν) E30 hf_nz (by omega)) (by omega))
noncomputable def f_Model_loop   (S : gw_S)  : Unit × gw_S := (gw_b (f_Model_name S) fun r1 S1 => gw_b (f_Model_place S1) fun r6 S6 => gw_b (f_Model_wrapped S6 ((S6 3 (r1 : Int32).toNatClampNeg) - (1 : Int32))) fun r23 S23 => gw_n (gw_u S23 3 (r1 : Int32).toNatClampNeg r23) fun S26 => if (S26 3 (r1 : Int32).toNatClampNeg) = 0 then (gw_n (gw_u S26 0 18 (S26 0 18)) fun S45 => ((), S45)) else (gw_n (gw_u S26 0 18 r6) fun S45 => ((), S45)))
set_option maxHeartbeats 4000000 in
set_option maxRecDepth 100000 in
theorem c_Model_loop (hJ : gw_J 20 ad)   (S : gw_S)  (hf_at : vp_in (S 0 18) 1024) : gw_M l y_Model_loop prog_8_method_20_code 3 none gTs (gw_rm 3) D gCl (gTys cI cB cC cZ) 20 ad (rE ad cI cB cZ) gw_rV [.ref (ad 0)] S (f_Model_loop S) := by
  refine gw_start gTs_ok (plainFor_of_name (by decide)) hJ (Nat.le_of_ble_eq_true rfl) (fun X A F => ?_)
  refine gw_lve (lv' := [(0, .ref (ad 0))]) rfl ?_
  unfold f_Model_loop
  refine gw_aload_n (pc := 0) F 0 d_Model_loop_0 rfl rfl ?_
  refine gw_cV (pc := 1) (As := []) (rest := []) F (c_Model_name (gw_FJ F) S hf_at) cw_Model_name cv_Model_name tw_578 rfl (by decide) (by decide) (by decide) rE_Model rfl rfl rfl rfl (Nat.le_of_ble_eq_true rfl) d_Model_loop_1 (gw_bI (P := fun r U => vp_in (U 0 18) 1024 ∧ vp_in r 32) ⟨(po_at_Model_name S hf_at), (rb_name S)⟩ (fun r1 S1 p1 => ?_))
  refine gw_istore_n (pc := 4) (lv' := [(1, .int r1), (0, .ref (ad 0))]) F d_Model_loop_4 rfl (by decide) rfl ?_
  refine gw_aload_n (pc := 5) F 1 d_Model_loop_5 rfl rfl ?_
  refine gw_cV (pc := 6) (As := []) (rest := []) F (c_Model_place (gw_FJ F) S1 p1.1) cw_Model_place cv_Model_place tw_554 rfl (by decide) (by decide) (by decide) rE_Model rfl rfl rfl rfl (Nat.le_of_ble_eq_true rfl) d_Model_loop_6 (gw_bI (P := fun r U => vp_in (U 0 18) 1024 ∧ vp_in r 1024) ⟨(po_at_Model_place S1 p1.1), (rb_place S1)⟩ (fun r6 S6 p6 => ?_))
  refine gw_istore_n (pc := 9) (lv' := [(2, .int r6), (1, .int r1), (0, .ref (ad 0))]) F d_Model_loop_9 rfl (by decide) rfl ?_
  refine gw_aload_n (pc := 10) F 2 d_Model_loop_10 rfl rfl ?_
  refine rg_Model_variable (pc := 11) F tw_409 d_Model_loop_11 ?_
  refine gw_iload_n (pc := 14) F 1 d_Model_loop_14 rfl rfl ?_
  refine gw_aload_n (pc := 15) F 2 d_Model_loop_15 rfl rfl ?_
  refine rg_Model_variable (pc := 16) F tw_409 d_Model_loop_16 ?_
  refine gw_iload_n (pc := 19) F 1 d_Model_loop_19 rfl rfl ?_
  refine rl_MVar (pc := 20) F p1.2 d_Model_loop_20 ?_
  refine gw_iconst (pc := 21) (v := (1 : Int32)) F d_Model_loop_21 (by decide) ?_
  refine gw_isub (pc := 22) F d_Model_loop_22 ?_
  refine gw_cS (pc := 23) (As := [.int ((S6 3 (r1 : Int32).toNatClampNeg) - (1 : Int32))]) (rest := [.int r1, .ref (ad 3)]) F (c_Model_wrapped (gw_FJ F) S6 ((S6 3 (r1 : Int32).toNatClampNeg) - (1 : Int32))) cw_Model_wrapped cv_Model_wrapped tw_523 rfl (by decide) (by decide) rfl rfl (Nat.le_of_ble_eq_true rfl) d_Model_loop_23 (gw_bI (P := fun r U => vp_in (U 0 18) 1024) (po_at_Model_wrapped S6 ((S6 3 (r1 : Int32).toNatClampNeg) - (1 : Int32)) p6.1) (fun r23 S23 p23 => ?_))
  refine rs_MVar (pc := 26) F p1.2 d_Model_loop_26 ?_
  refine gw_nS (fun S26 E26 => ?_)
  refine gw_aload_n (pc := 27) F 2 d_Model_loop_27 rfl rfl ?_
  refine gw_aload_n (pc := 28) F 2 d_Model_loop_28 rfl rfl ?_
  refine rg_Model_variable (pc := 29) F tw_409 d_Model_loop_29 ?_
  refine gw_iload_n (pc := 32) F 1 d_Model_loop_32 rfl rfl ?_
  refine rl_MVar (pc := 33) F p1.2 d_Model_loop_33 ?_
  refine gw_if_eqS (pc := 34) (tgt := 41) F d_Model_loop_34 (by decide) (fun h34 => ?_) (fun h34 => ?_)
  · refine gw_aload_n (pc := 41) F 2 d_Model_loop_41 rfl rfl ?_
    refine rg_Model_at (pc := 42) F tw_425 d_Model_loop_42 ?_
    refine rp_Model_at (pc := 45) F tw_425 d_Model_loop_45 ?_
    refine gw_nS (fun S45 E45 => ?_)
    exact gw_vret (pc := 48) F d_Model_loop_48
  · refine gw_iload_n (pc := 37) F 0 d_Model_loop_37 rfl rfl ?_
    refine gw_goto (pc := 38) (tgt := 45) F d_Model_loop_38 (by decide) ?_
    refine rp_Model_at (pc := 45) F tw_425 d_Model_loop_45 ?_
    refine gw_nS (fun S45 E45 => ?_)
    exact gw_vret (pc := 48) F d_Model_loop_48
set_option maxHeartbeats 4000000 in
set_option maxRecDepth 100000 in
theorem po_at_Model_loop   (S : gw_S)  (hf_at : vp_in (S 0 18) 1024) : vp_in ((f_Model_loop S).2 0 18) 1024 := by
  unfold f_Model_loop
  refine po_b (Φ := fun p : Unit × gw_S => vp_in (p.2 0 18) 1024) (P := fun r U => vp_in (U 0 18) 1024 ∧ vp_in r 32) ⟨(po_at_Model_name S hf_at), (rb_name S)⟩ (fun r1 S1 p1 => ?_)
  refine po_b (Φ := fun p : Unit × gw_S => vp_in (p.2 0 18) 1024) (P := fun r U => vp_in (U 0 18) 1024 ∧ vp_in r 1024) ⟨(po_at_Model_place S1 p1.1), (rb_place S1)⟩ (fun r6 S6 p6 => ?_)
  refine po_b (Φ := fun p : Unit × gw_S => vp_in (p.2 0 18) 1024) (P := fun r U => vp_in (U 0 18) 1024) (po_at_Model_wrapped S6 ((S6 3 (r1 : Int32).toNatClampNeg) - (1 : Int32)) p6.1) (fun r23 S23 p23 => ?_)
  refine po_n (Φ := fun p : Unit × gw_S => vp_in (p.2 0 18) 1024) (fun S26 E26 => ?_)
  refine po_if (Φ := fun p : Unit × gw_S => vp_in (p.2 0 18) 1024) (fun h34 => ?_) (fun h34 => ?_)
  · refine po_n (Φ := fun p : Unit × gw_S => vp_in (p.2 0 18) 1024) (fun S45 E45 => ?_)
    exact (rAt_set E45 (rOK_keep (P := fun z => vp_in z 1024) E26 p23 (by omega)))
  · refine po_n (Φ := fun p : Unit × gw_S => vp_in (p.2 0 18) 1024) (fun S45 E45 => ?_)
    exact (rAt_set E45 p6.2)
set_option maxHeartbeats 4000000 in
set_option maxRecDepth 100000 in
theorem po_ok_Model_loop   (S : gw_S)  (hf_ok : rOK S) : rOK (f_Model_loop S).2 := by
  unfold f_Model_loop
  refine po_b (Φ := fun p : Unit × gw_S => rOK p.2) (P := fun r U => rOK U ∧ vp_in r 32) ⟨(po_ok_Model_name S hf_ok), (rb_name S)⟩ (fun r1 S1 p1 => ?_)
  refine po_b (Φ := fun p : Unit × gw_S => rOK p.2) (P := fun r U => rOK U ∧ vp_in r 1024) ⟨(po_ok_Model_place S1 p1.1), (rb_place S1)⟩ (fun r6 S6 p6 => ?_)
  refine po_b (Φ := fun p : Unit × gw_S => rOK p.2) (P := fun r U => rOK U) (po_ok_Model_wrapped S6 ((S6 3 (r1 : Int32).toNatClampNeg) - (1 : Int32)) p6.1) (fun r23 S23 p23 => ?_)
  refine po_n (Φ := fun p : Unit × gw_S => rOK p.2) (fun S26 E26 => ?_)
  refine po_if (Φ := fun p : Unit × gw_S => rOK p.2) (fun h34 => ?_) (fun h34 => ?_)
  · refine po_n (Φ := fun p : Unit × gw_S => rOK p.2) (fun S45 E45 => ?_)
    exact (rOK_f E45 (rOK_c E26 p23 (by omega)) (by omega))
  · refine po_n (Φ := fun p : Unit × gw_S => rOK p.2) (fun S45 E45 => ?_)
    exact (rOK_f E45 (rOK_c E26 p23 (by omega)) (by omega))
set_option maxHeartbeats 4000000 in
set_option maxRecDepth 100000 in
theorem po_nz_Model_loop {ν : Int32}   (S : gw_S)  (hf_nz : S 0 14 = ν) : (f_Model_loop S).2 0 14 = ν := by
  unfold f_Model_loop
  refine po_b (Φ := fun p : Unit × gw_S => p.2 0 14 = ν) (P := fun r U => U 0 14 = ν ∧ vp_in r 32) ⟨(po_nz_Model_name S hf_nz), (rb_name S)⟩ (fun r1 S1 p1 => ?_)
  refine po_b (Φ := fun p : Unit × gw_S => p.2 0 14 = ν) (P := fun r U => U 0 14 = ν ∧ vp_in r 1024) ⟨(po_nz_Model_place S1 p1.1), (rb_place S1)⟩ (fun r6 S6 p6 => ?_)
  refine po_b (Φ := fun p : Unit × gw_S => p.2 0 14 = ν) (P := fun r U => U 0 14 = ν) (po_nz_Model_wrapped S6 ((S6 3 (r1 : Int32).toNatClampNeg) - (1 : Int32)) p6.1) (fun r23 S23 p23 => ?_)
  refine po_n (Φ := fun p : Unit × gw_S => p.2 0 14 = ν) (fun S26 E26 => ?_)
  refine po_if (Φ := fun p : Unit × gw_S => p.2 0 14 = ν) (fun h34 => ?_) (fun h34 => ?_)
  · refine po_n (Φ := fun p : Unit × gw_S => p.2 0 14 = ν) (fun S45 E45 => ?_)
    exact (rOK_keep (P := fun z => z = ν) E45 (rOK_keep (P := fun z => z = ν) E26 p23 (by omega)) (by omega))
  · refine po_n (Φ := fun p : Unit × gw_S => p.2 0 14 = ν) (fun S45 E45 => ?_)
    exact (rOK_keep (P := fun z => z = ν) E45 (rOK_keep (P := fun z => z = ν) E26 p23 (by omega)) (by omega))
noncomputable def f_Model_compares   (S : gw_S) (a1 : Int32) (a2 : Int32) (a3 : Int32) : Int32 × gw_S := (if a1 = 0 then (if a2 = a3 then (((1 : Int32), S)) else (((0 : Int32), S))) else (if a1 = 1 then (if a2 = a3 then (((0 : Int32), S)) else (((1 : Int32), S))) else (if a1 = 2 then (if a2 ≤ a3 then (((0 : Int32), S)) else (((1 : Int32), S))) else (if a1 = 3 then (if a2 < a3 then (((0 : Int32), S)) else (((1 : Int32), S))) else (if a1 = 4 then (if a3 ≤ a2 then (((0 : Int32), S)) else (((1 : Int32), S))) else (if a3 < a2 then (((0 : Int32), S)) else (((1 : Int32), S))))))))
set_option maxHeartbeats 4000000 in
set_option maxRecDepth 100000 in
theorem c_Model_compares (hJ : gw_J 20 ad)   (S : gw_S) (a1 : Int32) (a2 : Int32) (a3 : Int32) : gw_M l y_Model_compares prog_8_method_21_code 3 (some .boolean) gTs (gw_rm 0) D gCl (gTys cI cB cC cZ) 20 ad (rE ad cI cB cZ) gw_rI [.int a1, .int a2, .int a3] S (f_Model_compares S a1 a2 a3) := by
  refine gw_start gTs_ok (plainFor_of_name (by decide)) hJ (Nat.le_of_ble_eq_true rfl) (fun X A F => ?_)
  refine gw_lve (lv' := [(0, .int a1), (1, .int a2), (2, .int a3)]) rfl ?_
  unfold f_Model_compares
  refine gw_iload_n (pc := 0) F 0 d_Model_compares_0 rfl rfl ?_
  refine gw_spl (fun h1_0 => ?_) (fun h1_0 => ?_)
  · refine gw_tableIn (pc := 1) (tgt := 36) F d_Model_compares_1 h1_0 (by decide) (by decide) rfl (by decide) ?_
    refine gw_iload_n (pc := 36) F 1 d_Model_compares_36 rfl rfl ?_
    refine gw_iload_n (pc := 37) F 2 d_Model_compares_37 rfl rfl ?_
    refine gw_icmp_neS (pc := 38) (tgt := 45) F d_Model_compares_38 (by decide) (fun h38 => ?_) (fun h38 => ?_)
    · refine gw_iconst (pc := 45) (v := (0 : Int32)) F d_Model_compares_45 (by decide) ?_
      exact gw_zret (pc := 46) F d_Model_compares_46 rfl
    · refine gw_iconst (pc := 41) (v := (1 : Int32)) F d_Model_compares_41 (by decide) ?_
      refine gw_goto (pc := 42) (tgt := 46) F d_Model_compares_42 (by decide) ?_
      exact gw_zret (pc := 46) F d_Model_compares_46 rfl
  refine gw_spl (fun h1_1 => ?_) (fun h1_1 => ?_)
  · refine gw_tableIn (pc := 1) (tgt := 47) F d_Model_compares_1 h1_1 (by decide) (by decide) rfl (by decide) ?_
    refine gw_iload_n (pc := 47) F 1 d_Model_compares_47 rfl rfl ?_
    refine gw_iload_n (pc := 48) F 2 d_Model_compares_48 rfl rfl ?_
    refine gw_icmp_eqS (pc := 49) (tgt := 56) F d_Model_compares_49 (by decide) (fun h49 => ?_) (fun h49 => ?_)
    · refine gw_iconst (pc := 56) (v := (0 : Int32)) F d_Model_compares_56 (by decide) ?_
      exact gw_zret (pc := 57) F d_Model_compares_57 rfl
    · refine gw_iconst (pc := 52) (v := (1 : Int32)) F d_Model_compares_52 (by decide) ?_
      refine gw_goto (pc := 53) (tgt := 57) F d_Model_compares_53 (by decide) ?_
      exact gw_zret (pc := 57) F d_Model_compares_57 rfl
  refine gw_spl (fun h1_2 => ?_) (fun h1_2 => ?_)
  · refine gw_tableIn (pc := 1) (tgt := 58) F d_Model_compares_1 h1_2 (by decide) (by decide) rfl (by decide) ?_
    refine gw_iload_n (pc := 58) F 1 d_Model_compares_58 rfl rfl ?_
    refine gw_iload_n (pc := 59) F 2 d_Model_compares_59 rfl rfl ?_
    refine gw_icmp_leS (pc := 60) (tgt := 67) F d_Model_compares_60 (by decide) (fun h60 => ?_) (fun h60 => ?_)
    · refine gw_iconst (pc := 67) (v := (0 : Int32)) F d_Model_compares_67 (by decide) ?_
      exact gw_zret (pc := 68) F d_Model_compares_68 rfl
    · refine gw_iconst (pc := 63) (v := (1 : Int32)) F d_Model_compares_63 (by decide) ?_
      refine gw_goto (pc := 64) (tgt := 68) F d_Model_compares_64 (by decide) ?_
      exact gw_zret (pc := 68) F d_Model_compares_68 rfl
  refine gw_spl (fun h1_3 => ?_) (fun h1_3 => ?_)
  · refine gw_tableIn (pc := 1) (tgt := 69) F d_Model_compares_1 h1_3 (by decide) (by decide) rfl (by decide) ?_
    refine gw_iload_n (pc := 69) F 1 d_Model_compares_69 rfl rfl ?_
    refine gw_iload_n (pc := 70) F 2 d_Model_compares_70 rfl rfl ?_
    refine gw_icmp_ltS (pc := 71) (tgt := 78) F d_Model_compares_71 (by decide) (fun h71 => ?_) (fun h71 => ?_)
    · refine gw_iconst (pc := 78) (v := (0 : Int32)) F d_Model_compares_78 (by decide) ?_
      exact gw_zret (pc := 79) F d_Model_compares_79 rfl
    · refine gw_iconst (pc := 74) (v := (1 : Int32)) F d_Model_compares_74 (by decide) ?_
      refine gw_goto (pc := 75) (tgt := 79) F d_Model_compares_75 (by decide) ?_
      exact gw_zret (pc := 79) F d_Model_compares_79 rfl
  refine gw_spl (fun h1_4 => ?_) (fun h1_4 => ?_)
  · refine gw_tableIn (pc := 1) (tgt := 80) F d_Model_compares_1 h1_4 (by decide) (by decide) rfl (by decide) ?_
    refine gw_iload_n (pc := 80) F 1 d_Model_compares_80 rfl rfl ?_
    refine gw_iload_n (pc := 81) F 2 d_Model_compares_81 rfl rfl ?_
    refine gw_icmp_geS (pc := 82) (tgt := 89) F d_Model_compares_82 (by decide) (fun h82 => ?_) (fun h82 => ?_)
    · refine gw_iconst (pc := 89) (v := (0 : Int32)) F d_Model_compares_89 (by decide) ?_
      exact gw_zret (pc := 90) F d_Model_compares_90 rfl
    · refine gw_iconst (pc := 85) (v := (1 : Int32)) F d_Model_compares_85 (by decide) ?_
      refine gw_goto (pc := 86) (tgt := 90) F d_Model_compares_86 (by decide) ?_
      exact gw_zret (pc := 90) F d_Model_compares_90 rfl
  refine gw_tableOut (pc := 1) (tgt := 91) F d_Model_compares_1 (by have ne_0 : ¬ (a1 : Int32).toInt = 0 := gw_ne h1_0; have ne_1 : ¬ (a1 : Int32).toInt = 1 := gw_ne h1_1; have ne_2 : ¬ (a1 : Int32).toInt = 2 := gw_ne h1_2; have ne_3 : ¬ (a1 : Int32).toInt = 3 := gw_ne h1_3; have ne_4 : ¬ (a1 : Int32).toInt = 4 := gw_ne h1_4; omega) (by decide) ?_
  refine gw_iload_n (pc := 91) F 1 d_Model_compares_91 rfl rfl ?_
  refine gw_iload_n (pc := 92) F 2 d_Model_compares_92 rfl rfl ?_
  refine gw_icmp_gtS (pc := 93) (tgt := 100) F d_Model_compares_93 (by decide) (fun h93 => ?_) (fun h93 => ?_)
  · refine gw_iconst (pc := 100) (v := (0 : Int32)) F d_Model_compares_100 (by decide) ?_
    exact gw_zret (pc := 101) F d_Model_compares_101 rfl
  · refine gw_iconst (pc := 96) (v := (1 : Int32)) F d_Model_compares_96 (by decide) ?_
    refine gw_goto (pc := 97) (tgt := 101) F d_Model_compares_97 (by decide) ?_
    exact gw_zret (pc := 101) F d_Model_compares_101 rfl
set_option maxHeartbeats 4000000 in
set_option maxRecDepth 100000 in
theorem po_at_Model_compares   (S : gw_S) (a1 : Int32) (a2 : Int32) (a3 : Int32) (hf_at : vp_in (S 0 18) 1024) : vp_in ((f_Model_compares S a1 a2 a3).2 0 18) 1024 := by
  unfold f_Model_compares
  refine po_if (Φ := fun p : Int32 × gw_S => vp_in (p.2 0 18) 1024) (fun h1_0 => ?_) (fun h1_0 => ?_)
  · refine po_if (Φ := fun p : Int32 × gw_S => vp_in (p.2 0 18) 1024) (fun h38 => ?_) (fun h38 => ?_)
    · exact hf_at
    · exact hf_at
  refine po_if (Φ := fun p : Int32 × gw_S => vp_in (p.2 0 18) 1024) (fun h1_1 => ?_) (fun h1_1 => ?_)
  · refine po_if (Φ := fun p : Int32 × gw_S => vp_in (p.2 0 18) 1024) (fun h49 => ?_) (fun h49 => ?_)
    · exact hf_at
    · exact hf_at
  refine po_if (Φ := fun p : Int32 × gw_S => vp_in (p.2 0 18) 1024) (fun h1_2 => ?_) (fun h1_2 => ?_)
  · refine po_if (Φ := fun p : Int32 × gw_S => vp_in (p.2 0 18) 1024) (fun h60 => ?_) (fun h60 => ?_)
    · exact hf_at
    · exact hf_at
  refine po_if (Φ := fun p : Int32 × gw_S => vp_in (p.2 0 18) 1024) (fun h1_3 => ?_) (fun h1_3 => ?_)
  · refine po_if (Φ := fun p : Int32 × gw_S => vp_in (p.2 0 18) 1024) (fun h71 => ?_) (fun h71 => ?_)
    · exact hf_at
    · exact hf_at
  refine po_if (Φ := fun p : Int32 × gw_S => vp_in (p.2 0 18) 1024) (fun h1_4 => ?_) (fun h1_4 => ?_)
  · refine po_if (Φ := fun p : Int32 × gw_S => vp_in (p.2 0 18) 1024) (fun h82 => ?_) (fun h82 => ?_)
    · exact hf_at
    · exact hf_at
  refine po_if (Φ := fun p : Int32 × gw_S => vp_in (p.2 0 18) 1024) (fun h93 => ?_) (fun h93 => ?_)
  · exact hf_at
  · exact hf_at
set_option maxHeartbeats 4000000 in
set_option maxRecDepth 100000 in
theorem po_ok_Model_compares   (S : gw_S) (a1 : Int32) (a2 : Int32) (a3 : Int32) (hf_ok : rOK S) : rOK (f_Model_compares S a1 a2 a3).2 := by
  unfold f_Model_compares
  refine po_if (Φ := fun p : Int32 × gw_S => rOK p.2) (fun h1_0 => ?_) (fun h1_0 => ?_)
  · refine po_if (Φ := fun p : Int32 × gw_S => rOK p.2) (fun h38 => ?_) (fun h38 => ?_)
    · exact hf_ok
    · exact hf_ok
  refine po_if (Φ := fun p : Int32 × gw_S => rOK p.2) (fun h1_1 => ?_) (fun h1_1 => ?_)
  · refine po_if (Φ := fun p : Int32 × gw_S => rOK p.2) (fun h49 => ?_) (fun h49 => ?_)
    · exact hf_ok
    · exact hf_ok
  refine po_if (Φ := fun p : Int32 × gw_S => rOK p.2) (fun h1_2 => ?_) (fun h1_2 => ?_)
  · refine po_if (Φ := fun p : Int32 × gw_S => rOK p.2) (fun h60 => ?_) (fun h60 => ?_)
    · exact hf_ok
    · exact hf_ok
  refine po_if (Φ := fun p : Int32 × gw_S => rOK p.2) (fun h1_3 => ?_) (fun h1_3 => ?_)
  · refine po_if (Φ := fun p : Int32 × gw_S => rOK p.2) (fun h71 => ?_) (fun h71 => ?_)
    · exact hf_ok
    · exact hf_ok
  refine po_if (Φ := fun p : Int32 × gw_S => rOK p.2) (fun h1_4 => ?_) (fun h1_4 => ?_)
  · refine po_if (Φ := fun p : Int32 × gw_S => rOK p.2) (fun h82 => ?_) (fun h82 => ?_)
    · exact hf_ok
    · exact hf_ok
  refine po_if (Φ := fun p : Int32 × gw_S => rOK p.2) (fun h93 => ?_) (fun h93 => ?_)
  · exact hf_ok
  · exact hf_ok
set_option maxHeartbeats 4000000 in
set_option maxRecDepth 100000 in
theorem po_nz_Model_compares {ν : Int32}   (S : gw_S) (a1 : Int32) (a2 : Int32) (a3 : Int32) (hf_nz : S 0 14 = ν) : (f_Model_compares S a1 a2 a3).2 0 14 = ν := by
  unfold f_Model_compares
  refine po_if (Φ := fun p : Int32 × gw_S => p.2 0 14 = ν) (fun h1_0 => ?_) (fun h1_0 => ?_)
  · refine po_if (Φ := fun p : Int32 × gw_S => p.2 0 14 = ν) (fun h38 => ?_) (fun h38 => ?_)
    · exact hf_nz
    · exact hf_nz
  refine po_if (Φ := fun p : Int32 × gw_S => p.2 0 14 = ν) (fun h1_1 => ?_) (fun h1_1 => ?_)
  · refine po_if (Φ := fun p : Int32 × gw_S => p.2 0 14 = ν) (fun h49 => ?_) (fun h49 => ?_)
    · exact hf_nz
    · exact hf_nz
  refine po_if (Φ := fun p : Int32 × gw_S => p.2 0 14 = ν) (fun h1_2 => ?_) (fun h1_2 => ?_)
  · refine po_if (Φ := fun p : Int32 × gw_S => p.2 0 14 = ν) (fun h60 => ?_) (fun h60 => ?_)
    · exact hf_nz
    · exact hf_nz
  refine po_if (Φ := fun p : Int32 × gw_S => p.2 0 14 = ν) (fun h1_3 => ?_) (fun h1_3 => ?_)
  · refine po_if (Φ := fun p : Int32 × gw_S => p.2 0 14 = ν) (fun h71 => ?_) (fun h71 => ?_)
    · exact hf_nz
    · exact hf_nz
  refine po_if (Φ := fun p : Int32 × gw_S => p.2 0 14 = ν) (fun h1_4 => ?_) (fun h1_4 => ?_)
  · refine po_if (Φ := fun p : Int32 × gw_S => p.2 0 14 = ν) (fun h82 => ?_) (fun h82 => ?_)
    · exact hf_nz
    · exact hf_nz
  refine po_if (Φ := fun p : Int32 × gw_S => p.2 0 14 = ν) (fun h93 => ?_) (fun h93 => ?_)
  · exact hf_nz
  · exact hf_nz
noncomputable def fl_Model_when_49   (S : gw_S) (x1 x2 x3 : Int32) : Unit × gw_S := (if (x1 &&& (7 : Int32)) ≤ (5 : Int32) then (gw_b (f_Model_place S) fun r64 S64 => gw_b (f_Model_compares S64 (x1 &&& (7 : Int32)) (S64 3 (x2 : Int32).toNatClampNeg) x3) fun r81 S81 => if r81 = 0 then (gw_n (gw_u S81 0 18 (S81 0 18)) fun S96 => ((), S96)) else (gw_n (gw_u S81 0 18 r64) fun S96 => ((), S96))) else (gw_b (f_Model_fails S (3 : Int32)) fun _ S59 => ((), S59)))
set_option maxHeartbeats 4000000 in
set_option maxRecDepth 100000 in
theorem l_Model_when_49 {X : gx_M} {A : Nat → Prop}  (F : gw_F X l prog_8_method_22_code 5 none "StageMachineModel" gTs (gw_rm 3) D gCl (gTys cI cB cC cZ) 20 ad A)  : ∀ (S : gw_S) (x1 x2 x3 : Int32), vp_in x2 32 → vp_in (S 0 18) 1024 → gw_V X (gw_P D gCl 20 ad (rE ad cI cB cZ)) A 5 gw_rV S 49 [(0, .ref (ad 0)), (1, .int x1), (2, .int x2), (3, .int x3)] [] (fl_Model_when_49  S x1 x2 x3) := by
    intro S x1 x2 x3 hx2 hf_at
    unfold fl_Model_when_49
    refine gw_iload_n (pc := 49) F 1 d_Model_when_49 rfl rfl ?_
    refine gw_bipush (pc := 50) (v := (7 : Int32)) F d_Model_when_50 (by decide) ?_
    refine gw_iand (pc := 52) F d_Model_when_52 ?_
    refine gw_iconst (pc := 53) (v := (5 : Int32)) F d_Model_when_53 (by decide) ?_
    refine gw_icmp_leS (pc := 54) (tgt := 63) F d_Model_when_54 (by decide) (fun h54 => ?_) (fun h54 => ?_)
    · refine gw_aload_n (pc := 63) F 0 d_Model_when_63 rfl rfl ?_
      refine gw_cV (pc := 64) (As := []) (rest := []) F (c_Model_place (gw_FJ F) S hf_at) cw_Model_place cv_Model_place tw_554 rfl (by decide) (by decide) (by decide) rE_Model rfl rfl rfl rfl (Nat.le_of_ble_eq_true rfl) d_Model_when_64 (gw_bI (P := fun r U => vp_in (U 0 18) 1024 ∧ vp_in r 1024) ⟨(po_at_Model_place S hf_at), (rb_place S)⟩ (fun r64 S64 p64 => ?_))
      refine gw_istore (pc := 67) (lv' := [(4, .int r64), (0, .ref (ad 0)), (1, .int x1), (2, .int x2), (3, .int x3)]) F d_Model_when_67 (by decide) rfl ?_
      refine gw_aload_n (pc := 69) F 1 d_Model_when_69 rfl rfl ?_
      refine gw_iload_n (pc := 70) F 2 d_Model_when_70 rfl rfl ?_
      refine gw_bipush (pc := 71) (v := (7 : Int32)) F d_Model_when_71 (by decide) ?_
      refine gw_iand (pc := 73) F d_Model_when_73 ?_
      refine gw_aload_n (pc := 74) F 1 d_Model_when_74 rfl rfl ?_
      refine rg_Model_variable (pc := 75) F tw_409 d_Model_when_75 ?_
      refine gw_iload_n (pc := 78) F 3 d_Model_when_78 rfl rfl ?_
      refine rl_MVar (pc := 79) F hx2 d_Model_when_79 ?_
      refine gw_iload_n (pc := 80) F 4 d_Model_when_80 rfl rfl ?_
      refine gw_cS (pc := 81) (As := [.int (x1 &&& (7 : Int32)), .int (S64 3 (x2 : Int32).toNatClampNeg), .int x3]) (rest := [.ref (ad 0)]) F (c_Model_compares (gw_FJ F) S64 (x1 &&& (7 : Int32)) (S64 3 (x2 : Int32).toNatClampNeg) x3) cw_Model_compares cv_Model_compares tw_590 rfl (by decide) (by decide) rfl rfl (Nat.le_of_ble_eq_true rfl) d_Model_when_81 (gw_bI (P := fun r U => vp_in (U 0 18) 1024) (po_at_Model_compares S64 (x1 &&& (7 : Int32)) (S64 3 (x2 : Int32).toNatClampNeg) x3 p64.1) (fun r81 S81 p81 => ?_))
      refine gw_if_eqS (pc := 84) (tgt := 92) F d_Model_when_84 (by decide) (fun h84 => ?_) (fun h84 => ?_)
      · refine gw_aload_n (pc := 92) F 1 d_Model_when_92 rfl rfl ?_
        refine rg_Model_at (pc := 93) F tw_425 d_Model_when_93 ?_
        refine rp_Model_at (pc := 96) F tw_425 d_Model_when_96 ?_
        refine gw_nS (fun S96 E96 => ?_)
        exact gw_vret (pc := 99) F d_Model_when_99
      · refine gw_iload (pc := 87) F 0 d_Model_when_87 rfl ?_
        refine gw_goto (pc := 89) (tgt := 96) F d_Model_when_89 (by decide) ?_
        refine rp_Model_at (pc := 96) F tw_425 d_Model_when_96 ?_
        refine gw_nS (fun S96 E96 => ?_)
        exact gw_vret (pc := 99) F d_Model_when_99
    · refine gw_aload_n (pc := 57) F 0 d_Model_when_57 rfl rfl ?_
      refine gw_iconst (pc := 58) (v := (3 : Int32)) F d_Model_when_58 (by decide) ?_
      refine gw_cV (pc := 59) (As := [.int (3 : Int32)]) (rest := []) F (c_Model_fails (gw_FJ F) S (3 : Int32)) cw_Model_fails cv_Model_fails tw_566 rfl (by decide) (by decide) (by decide) rE_Model rfl rfl rfl rfl (Nat.le_of_ble_eq_true rfl) d_Model_when_59 (gw_bV (P := fun _ U => vp_in (U 0 18) 1024) (po_at_Model_fails S (3 : Int32) hf_at) (fun _ S59 p59 => ?_))
      exact gw_vret (pc := 62) F d_Model_when_62
noncomputable def f_Model_when   (S : gw_S)  : Unit × gw_S := (gw_b (f_Model_next S) fun r1 S1 => gw_b (f_Model_name S1) fun r6 S6 => if (r1 &&& (128 : Int32)) ≤ 0 then (if (r1 &&& (64 : Int32)) ≤ 0 then (gw_b (f_Model_next S6) fun r45 S45 => (fl_Model_when_49   S45 r1 r6 r45)) else (gw_b (f_Model_signed S6) fun r38 S38 => (fl_Model_when_49   S38 r1 r6 r38))) else (gw_b (f_Model_name S6) fun r23 S23 => gw_n (S23 3 (r23 : Int32).toNatClampNeg) fun v48 => (fl_Model_when_49   S23 r1 r6 v48)))
set_option maxHeartbeats 4000000 in
set_option maxRecDepth 100000 in
theorem c_Model_when (hJ : gw_J 20 ad)   (S : gw_S)  (hf_at : vp_in (S 0 18) 1024) : gw_M l y_Model_when prog_8_method_22_code 5 none gTs (gw_rm 3) D gCl (gTys cI cB cC cZ) 20 ad (rE ad cI cB cZ) gw_rV [.ref (ad 0)] S (f_Model_when S) := by
  refine gw_start gTs_ok (plainFor_of_name (by decide)) hJ (Nat.le_of_ble_eq_true rfl) (fun X A F => ?_)
  refine gw_lve (lv' := [(0, .ref (ad 0))]) rfl ?_
  unfold f_Model_when
  refine gw_aload_n (pc := 0) F 0 d_Model_when_0 rfl rfl ?_
  refine gw_cV (pc := 1) (As := []) (rest := []) F (c_Model_next (gw_FJ F) S hf_at) cw_Model_next cv_Model_next tw_550 rfl (by decide) (by decide) (by decide) rE_Model rfl rfl rfl rfl (Nat.le_of_ble_eq_true rfl) d_Model_when_1 (gw_bI (P := fun r U => vp_in (U 0 18) 1024) (po_at_Model_next S hf_at) (fun r1 S1 p1 => ?_))
  refine gw_istore_n (pc := 4) (lv' := [(1, .int r1), (0, .ref (ad 0))]) F d_Model_when_4 rfl (by decide) rfl ?_
  refine gw_aload_n (pc := 5) F 1 d_Model_when_5 rfl rfl ?_
  refine gw_cV (pc := 6) (As := []) (rest := []) F (c_Model_name (gw_FJ F) S1 p1) cw_Model_name cv_Model_name tw_578 rfl (by decide) (by decide) (by decide) rE_Model rfl rfl rfl rfl (Nat.le_of_ble_eq_true rfl) d_Model_when_6 (gw_bI (P := fun r U => vp_in (U 0 18) 1024 ∧ vp_in r 32) ⟨(po_at_Model_name S1 p1), (rb_name S1)⟩ (fun r6 S6 p6 => ?_))
  refine gw_istore_n (pc := 9) (lv' := [(2, .int r6), (1, .int r1), (0, .ref (ad 0))]) F d_Model_when_9 rfl (by decide) rfl ?_
  refine gw_iload_n (pc := 10) F 1 d_Model_when_10 rfl rfl ?_
  refine gw_sipush (pc := 11) (v := (128 : Int32)) F d_Model_when_11 (by decide) ?_
  refine gw_iand (pc := 14) F d_Model_when_14 ?_
  refine gw_if_leS (pc := 15) (tgt := 30) F d_Model_when_15 (by decide) (fun h15 => ?_) (fun h15 => ?_)
  · refine gw_iload_n (pc := 30) F 1 d_Model_when_30 rfl rfl ?_
    refine gw_bipush (pc := 31) (v := (64 : Int32)) F d_Model_when_31 (by decide) ?_
    refine gw_iand (pc := 33) F d_Model_when_33 ?_
    refine gw_if_leS (pc := 34) (tgt := 44) F d_Model_when_34 (by decide) (fun h34 => ?_) (fun h34 => ?_)
    · refine gw_aload_n (pc := 44) F 2 d_Model_when_44 rfl rfl ?_
      refine gw_cV (pc := 45) (As := []) (rest := []) F (c_Model_next (gw_FJ F) S6 p6.1) cw_Model_next cv_Model_next tw_550 rfl (by decide) (by decide) (by decide) rE_Model rfl rfl rfl rfl (Nat.le_of_ble_eq_true rfl) d_Model_when_45 (gw_bI (P := fun r U => vp_in (U 0 18) 1024) (po_at_Model_next S6 p6.1) (fun r45 S45 p45 => ?_))
      refine gw_istore_n (pc := 48) (lv' := [(3, .int r45), (2, .int r6), (1, .int r1), (0, .ref (ad 0))]) F d_Model_when_48 rfl (by decide) rfl ?_
      refine gw_lvs (lv' := [(0, .ref (ad 0)), (1, .int r1), (2, .int r6), (3, .int r45)]) [3, 2, 1, 0] rfl ?_
      exact l_Model_when_49  F    S45 r1 r6 r45 p6.2 p45
    · refine gw_aload_n (pc := 37) F 2 d_Model_when_37 rfl rfl ?_
      refine gw_cV (pc := 38) (As := []) (rest := []) F (c_Model_signed (gw_FJ F) S6 p6.1) cw_Model_signed cv_Model_signed tw_586 rfl (by decide) (by decide) (by decide) rE_Model rfl rfl rfl rfl (Nat.le_of_ble_eq_true rfl) d_Model_when_38 (gw_bI (P := fun r U => vp_in (U 0 18) 1024) (po_at_Model_signed S6 p6.1) (fun r38 S38 p38 => ?_))
      refine gw_goto (pc := 41) (tgt := 48) F d_Model_when_41 (by decide) ?_
      refine gw_istore_n (pc := 48) (lv' := [(3, .int r38), (2, .int r6), (1, .int r1), (0, .ref (ad 0))]) F d_Model_when_48 rfl (by decide) rfl ?_
      refine gw_lvs (lv' := [(0, .ref (ad 0)), (1, .int r1), (2, .int r6), (3, .int r38)]) [3, 2, 1, 0] rfl ?_
      exact l_Model_when_49  F    S38 r1 r6 r38 p6.2 p38
  · refine gw_aload_n (pc := 18) F 2 d_Model_when_18 rfl rfl ?_
    refine rg_Model_variable (pc := 19) F tw_409 d_Model_when_19 ?_
    refine gw_aload_n (pc := 22) F 2 d_Model_when_22 rfl rfl ?_
    refine gw_cV (pc := 23) (As := []) (rest := [.ref (ad 3)]) F (c_Model_name (gw_FJ F) S6 p6.1) cw_Model_name cv_Model_name tw_578 rfl (by decide) (by decide) (by decide) rE_Model rfl rfl rfl rfl (Nat.le_of_ble_eq_true rfl) d_Model_when_23 (gw_bI (P := fun r U => vp_in (U 0 18) 1024 ∧ vp_in r 32) ⟨(po_at_Model_name S6 p6.1), (rb_name S6)⟩ (fun r23 S23 p23 => ?_))
    refine rl_MVar (pc := 26) F p23.2 d_Model_when_26 ?_
    refine gw_goto (pc := 27) (tgt := 48) F d_Model_when_27 (by decide) ?_
    refine gw_nI (fun v48 e48 => ?_)
    refine gw_istore_n (pc := 48) (lv' := [(3, .int v48), (2, .int r6), (1, .int r1), (0, .ref (ad 0))]) F d_Model_when_48 rfl (by decide) rfl ?_
    refine gw_lvs (lv' := [(0, .ref (ad 0)), (1, .int r1), (2, .int r6), (3, .int v48)]) [3, 2, 1, 0] rfl ?_
    exact l_Model_when_49  F    S23 r1 r6 v48 p6.2 p23.1
set_option maxHeartbeats 4000000 in
set_option maxRecDepth 100000 in
theorem pl_at_Model_when_49   : ∀ (S : gw_S) (x1 x2 x3 : Int32), vp_in x2 32 → vp_in (S 0 18) 1024 → vp_in ((fl_Model_when_49  S x1 x2 x3).2 0 18) 1024 := by
    intro S x1 x2 x3 hx2 hf_at
    unfold fl_Model_when_49
    refine po_if (Φ := fun p : Unit × gw_S => vp_in (p.2 0 18) 1024) (fun h54 => ?_) (fun h54 => ?_)
    · refine po_b (Φ := fun p : Unit × gw_S => vp_in (p.2 0 18) 1024) (P := fun r U => vp_in (U 0 18) 1024 ∧ vp_in r 1024) ⟨(po_at_Model_place S hf_at), (rb_place S)⟩ (fun r64 S64 p64 => ?_)
      refine po_b (Φ := fun p : Unit × gw_S => vp_in (p.2 0 18) 1024) (P := fun r U => vp_in (U 0 18) 1024) (po_at_Model_compares S64 (x1 &&& (7 : Int32)) (S64 3 (x2 : Int32).toNatClampNeg) x3 p64.1) (fun r81 S81 p81 => ?_)
      refine po_if (Φ := fun p : Unit × gw_S => vp_in (p.2 0 18) 1024) (fun h84 => ?_) (fun h84 => ?_)
      · refine po_n (Φ := fun p : Unit × gw_S => vp_in (p.2 0 18) 1024) (fun S96 E96 => ?_)
        exact (rAt_set E96 p81)
      · refine po_n (Φ := fun p : Unit × gw_S => vp_in (p.2 0 18) 1024) (fun S96 E96 => ?_)
        exact (rAt_set E96 p64.2)
    · refine po_b (Φ := fun p : Unit × gw_S => vp_in (p.2 0 18) 1024) (P := fun _ U => vp_in (U 0 18) 1024) (po_at_Model_fails S (3 : Int32) hf_at) (fun _ S59 p59 => ?_)
      exact p59
set_option maxHeartbeats 4000000 in
set_option maxRecDepth 100000 in
theorem po_at_Model_when   (S : gw_S)  (hf_at : vp_in (S 0 18) 1024) : vp_in ((f_Model_when S).2 0 18) 1024 := by
  unfold f_Model_when
  refine po_b (Φ := fun p : Unit × gw_S => vp_in (p.2 0 18) 1024) (P := fun r U => vp_in (U 0 18) 1024) (po_at_Model_next S hf_at) (fun r1 S1 p1 => ?_)
  refine po_b (Φ := fun p : Unit × gw_S => vp_in (p.2 0 18) 1024) (P := fun r U => vp_in (U 0 18) 1024 ∧ vp_in r 32) ⟨(po_at_Model_name S1 p1), (rb_name S1)⟩ (fun r6 S6 p6 => ?_)
  refine po_if (Φ := fun p : Unit × gw_S => vp_in (p.2 0 18) 1024) (fun h15 => ?_) (fun h15 => ?_)
  · refine po_if (Φ := fun p : Unit × gw_S => vp_in (p.2 0 18) 1024) (fun h34 => ?_) (fun h34 => ?_)
    · refine po_b (Φ := fun p : Unit × gw_S => vp_in (p.2 0 18) 1024) (P := fun r U => vp_in (U 0 18) 1024) (po_at_Model_next S6 p6.1) (fun r45 S45 p45 => ?_)
      exact pl_at_Model_when_49    S45 r1 r6 r45 p6.2 p45
    · refine po_b (Φ := fun p : Unit × gw_S => vp_in (p.2 0 18) 1024) (P := fun r U => vp_in (U 0 18) 1024) (po_at_Model_signed S6 p6.1) (fun r38 S38 p38 => ?_)
      exact pl_at_Model_when_49    S38 r1 r6 r38 p6.2 p38
  · refine po_b (Φ := fun p : Unit × gw_S => vp_in (p.2 0 18) 1024) (P := fun r U => vp_in (U 0 18) 1024 ∧ vp_in r 32) ⟨(po_at_Model_name S6 p6.1), (rb_name S6)⟩ (fun r23 S23 p23 => ?_)
    refine po_n (Φ := fun p : Unit × gw_S => vp_in (p.2 0 18) 1024) (fun v48 e48 => ?_)
    exact pl_at_Model_when_49    S23 r1 r6 v48 p6.2 p23.1
set_option maxHeartbeats 4000000 in
set_option maxRecDepth 100000 in
theorem pl_ok_Model_when_49   : ∀ (S : gw_S) (x1 x2 x3 : Int32), vp_in x2 32 → rOK S → rOK (fl_Model_when_49  S x1 x2 x3).2 := by
    intro S x1 x2 x3 hx2 hf_ok
    unfold fl_Model_when_49
    refine po_if (Φ := fun p : Unit × gw_S => rOK p.2) (fun h54 => ?_) (fun h54 => ?_)
    · refine po_b (Φ := fun p : Unit × gw_S => rOK p.2) (P := fun r U => rOK U ∧ vp_in r 1024) ⟨(po_ok_Model_place S hf_ok), (rb_place S)⟩ (fun r64 S64 p64 => ?_)
      refine po_b (Φ := fun p : Unit × gw_S => rOK p.2) (P := fun r U => rOK U) (po_ok_Model_compares S64 (x1 &&& (7 : Int32)) (S64 3 (x2 : Int32).toNatClampNeg) x3 p64.1) (fun r81 S81 p81 => ?_)
      refine po_if (Φ := fun p : Unit × gw_S => rOK p.2) (fun h84 => ?_) (fun h84 => ?_)
      · refine po_n (Φ := fun p : Unit × gw_S => rOK p.2) (fun S96 E96 => ?_)
        exact (rOK_f E96 p81 (by omega))
      · refine po_n (Φ := fun p : Unit × gw_S => rOK p.2) (fun S96 E96 => ?_)
        exact (rOK_f E96 p81 (by omega))
    · refine po_b (Φ := fun p : Unit × gw_S => rOK p.2) (P := fun _ U => rOK U) (po_ok_Model_fails S (3 : Int32) hf_ok) (fun _ S59 p59 => ?_)
      exact p59
set_option maxHeartbeats 4000000 in
set_option maxRecDepth 100000 in
theorem po_ok_Model_when   (S : gw_S)  (hf_ok : rOK S) : rOK (f_Model_when S).2 := by
  unfold f_Model_when
  refine po_b (Φ := fun p : Unit × gw_S => rOK p.2) (P := fun r U => rOK U) (po_ok_Model_next S hf_ok) (fun r1 S1 p1 => ?_)
  refine po_b (Φ := fun p : Unit × gw_S => rOK p.2) (P := fun r U => rOK U ∧ vp_in r 32) ⟨(po_ok_Model_name S1 p1), (rb_name S1)⟩ (fun r6 S6 p6 => ?_)
  refine po_if (Φ := fun p : Unit × gw_S => rOK p.2) (fun h15 => ?_) (fun h15 => ?_)
  · refine po_if (Φ := fun p : Unit × gw_S => rOK p.2) (fun h34 => ?_) (fun h34 => ?_)
    · refine po_b (Φ := fun p : Unit × gw_S => rOK p.2) (P := fun r U => rOK U) (po_ok_Model_next S6 p6.1) (fun r45 S45 p45 => ?_)
      exact pl_ok_Model_when_49    S45 r1 r6 r45 p6.2 p45
    · refine po_b (Φ := fun p : Unit × gw_S => rOK p.2) (P := fun r U => rOK U) (po_ok_Model_signed S6 p6.1) (fun r38 S38 p38 => ?_)
      exact pl_ok_Model_when_49    S38 r1 r6 r38 p6.2 p38
  · refine po_b (Φ := fun p : Unit × gw_S => rOK p.2) (P := fun r U => rOK U ∧ vp_in r 32) ⟨(po_ok_Model_name S6 p6.1), (rb_name S6)⟩ (fun r23 S23 p23 => ?_)
    refine po_n (Φ := fun p : Unit × gw_S => rOK p.2) (fun v48 e48 => ?_)
    exact pl_ok_Model_when_49    S23 r1 r6 v48 p6.2 p23.1
set_option maxHeartbeats 4000000 in
set_option maxRecDepth 100000 in
theorem pl_nz_Model_when_49 {ν : Int32}   : ∀ (S : gw_S) (x1 x2 x3 : Int32), vp_in x2 32 → S 0 14 = ν → (fl_Model_when_49  S x1 x2 x3).2 0 14 = ν := by
    intro S x1 x2 x3 hx2 hf_nz
    unfold fl_Model_when_49
    refine po_if (Φ := fun p : Unit × gw_S => p.2 0 14 = ν) (fun h54 => ?_) (fun h54 => ?_)
    · refine po_b (Φ := fun p : Unit × gw_S => p.2 0 14 = ν) (P := fun r U => U 0 14 = ν ∧ vp_in r 1024) ⟨(po_nz_Model_place S hf_nz), (rb_place S)⟩ (fun r64 S64 p64 => ?_)
      refine po_b (Φ := fun p : Unit × gw_S => p.2 0 14 = ν) (P := fun r U => U 0 14 = ν) (po_nz_Model_compares S64 (x1 &&& (7 : Int32)) (S64 3 (x2 : Int32).toNatClampNeg) x3 p64.1) (fun r81 S81 p81 => ?_)
      refine po_if (Φ := fun p : Unit × gw_S => p.2 0 14 = ν) (fun h84 => ?_) (fun h84 => ?_)
      · refine po_n (Φ := fun p : Unit × gw_S => p.2 0 14 = ν) (fun S96 E96 => ?_)
        exact (rOK_keep (P := fun z => z = ν) E96 p81 (by omega))
      · refine po_n (Φ := fun p : Unit × gw_S => p.2 0 14 = ν) (fun S96 E96 => ?_)
        exact (rOK_keep (P := fun z => z = ν) E96 p81 (by omega))
    · refine po_b (Φ := fun p : Unit × gw_S => p.2 0 14 = ν) (P := fun _ U => U 0 14 = ν) (po_nz_Model_fails S (3 : Int32) hf_nz) (fun _ S59 p59 => ?_)
      exact p59
set_option maxHeartbeats 4000000 in
set_option maxRecDepth 100000 in
theorem po_nz_Model_when {ν : Int32}   (S : gw_S)  (hf_nz : S 0 14 = ν) : (f_Model_when S).2 0 14 = ν := by
  unfold f_Model_when
  refine po_b (Φ := fun p : Unit × gw_S => p.2 0 14 = ν) (P := fun r U => U 0 14 = ν) (po_nz_Model_next S hf_nz) (fun r1 S1 p1 => ?_)
  refine po_b (Φ := fun p : Unit × gw_S => p.2 0 14 = ν) (P := fun r U => U 0 14 = ν ∧ vp_in r 32) ⟨(po_nz_Model_name S1 p1), (rb_name S1)⟩ (fun r6 S6 p6 => ?_)
  refine po_if (Φ := fun p : Unit × gw_S => p.2 0 14 = ν) (fun h15 => ?_) (fun h15 => ?_)
  · refine po_if (Φ := fun p : Unit × gw_S => p.2 0 14 = ν) (fun h34 => ?_) (fun h34 => ?_)
    · refine po_b (Φ := fun p : Unit × gw_S => p.2 0 14 = ν) (P := fun r U => U 0 14 = ν) (po_nz_Model_next S6 p6.1) (fun r45 S45 p45 => ?_)
      exact pl_nz_Model_when_49    S45 r1 r6 r45 p6.2 p45
    · refine po_b (Φ := fun p : Unit × gw_S => p.2 0 14 = ν) (P := fun r U => U 0 14 = ν) (po_nz_Model_signed S6 p6.1) (fun r38 S38 p38 => ?_)
      exact pl_nz_Model_when_49    S38 r1 r6 r38 p6.2 p38
  · refine po_b (Φ := fun p : Unit × gw_S => p.2 0 14 = ν) (P := fun r U => U 0 14 = ν ∧ vp_in r 32) ⟨(po_nz_Model_name S6 p6.1), (rb_name S6)⟩ (fun r23 S23 p23 => ?_)
    refine po_n (Φ := fun p : Unit × gw_S => p.2 0 14 = ν) (fun v48 e48 => ?_)
    exact pl_nz_Model_when_49    S23 r1 r6 v48 p6.2 p23.1
end
