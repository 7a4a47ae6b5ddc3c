section
variable {l : Launch} {D : va_G} {cI cB cC cZ : ClassId} {ad : Nat → Nat}
noncomputable def f_Model_next   (S : gw_S)  : Int32 × gw_S := (gw_n (S 1 ((S 0 18) : Int32).toNatClampNeg) fun v9 => gw_n (gw_u S 0 18 (((S 0 18) + (1 : Int32)) &&& (1023 : Int32))) fun S21 => (v9, S21))
set_option maxHeartbeats 4000000 in
set_option maxRecDepth 100000 in
theorem c_Model_next (hJ : gw_J 20 ad)   (S : gw_S)  (hf_at : vp_in (S 0 18) 1024) : gw_M l y_Model_next prog_8_method_10_code 2 (some .int) gTs (gw_rm 0) D gCl (gTys cI cB cC cZ) 20 ad (rE ad cI cB cZ) gw_rI [.ref (ad 0)] S (f_Model_next S) := by
  refine gw_start gTs_ok (plainFor_of_name (by decide)) hJ (Nat.le_of_ble_eq_true rfl) (fun X A F => ?_)
  refine gw_lve (lv' := [(0, .ref (ad 0))]) rfl ?_
  unfold f_Model_next
  refine gw_aload_n (pc := 0) F 0 d_Model_next_0 rfl rfl ?_
  refine rg_Model_program (pc := 1) F tw_407 d_Model_next_1 ?_
  refine gw_aload_n (pc := 4) F 0 d_Model_next_4 rfl rfl ?_
  refine rg_Model_at (pc := 5) F tw_425 d_Model_next_5 ?_
  refine rl_MProg (pc := 8) F hf_at d_Model_next_8 ?_
  refine gw_nI (fun v9 e9 => ?_)
  refine gw_istore_n (pc := 9) (lv' := [(1, .int v9), (0, .ref (ad 0))]) F d_Model_next_9 rfl (by decide) rfl ?_
  refine gw_aload_n (pc := 10) F 1 d_Model_next_10 rfl rfl ?_
  refine gw_aload_n (pc := 11) F 1 d_Model_next_11 rfl rfl ?_
  refine rg_Model_at (pc := 12) F tw_425 d_Model_next_12 ?_
  refine gw_iconst (pc := 15) (v := (1 : Int32)) F d_Model_next_15 (by decide) ?_
  refine gw_iadd (pc := 16) F d_Model_next_16 ?_
  refine gw_sipush (pc := 17) (v := (1023 : Int32)) F d_Model_next_17 (by decide) ?_
  refine gw_iand (pc := 20) F d_Model_next_20 ?_
  refine rp_Model_at (pc := 21) F tw_425 d_Model_next_21 ?_
  refine gw_nS (fun S21 E21 => ?_)
  refine gw_iload_n (pc := 24) F 0 d_Model_next_24 rfl rfl ?_
  exact gw_iret (pc := 25) F d_Model_next_25
set_option maxHeartbeats 4000000 in
set_option maxRecDepth 100000 in
theorem po_at_Model_next   (S : gw_S)  (hf_at : vp_in (S 0 18) 1024) : vp_in ((f_Model_next S).2 0 18) 1024 := by
  unfold f_Model_next
  refine po_n (Φ := fun p : Int32 × gw_S => vp_in (p.2 0 18) 1024) (fun v9 e9 => ?_)
  refine po_n (Φ := fun p : Int32 × gw_S => vp_in (p.2 0 18) 1024) (fun S21 E21 => ?_)
  exact (rAt_set E21 (gw_and1023 _))
set_option maxHeartbeats 4000000 in
set_option maxRecDepth 100000 in
theorem po_ok_Model_next   (S : gw_S)  (hf_ok : rOK S) : rOK (f_Model_next S).2 := by
  unfold f_Model_next
  refine po_n (Φ := fun p : Int32 × gw_S => rOK p.2) (fun v9 e9 => ?_)
  refine po_n (Φ := fun p : Int32 × gw_S => rOK p.2) (fun S21 E21 => ?_)
  exact (rOK_f E21 hf_ok (by omega))
set_option maxHeartbeats 4000000 in
set_option maxRecDepth 100000 in
theorem po_nz_Model_next {ν : Int32}   (S : gw_S)  (hf_nz : S 0 14 = ν) : (f_Model_next S).2 0 14 = ν := by
  unfold f_Model_next
  refine po_n (Φ := fun p : Int32 × gw_S => p.2 0 14 = ν) (fun v9 e9 => ?_)
  refine po_n (Φ := fun p : Int32 × gw_S => p.2 0 14 = ν) (fun S21 E21 => ?_)
  exact (rOK_keep (P := fun z => z = ν) E21 hf_nz (by omega))
noncomputable def f_Model_name   (S : gw_S)  : Int32 × gw_S := (gw_b (f_Model_next S) fun r1 S1 => ((r1 &&& (31 : Int32)), S1))
set_option maxHeartbeats 4000000 in
set_option maxRecDepth 100000 in
theorem c_Model_name (hJ : gw_J 20 ad)   (S : gw_S)  (hf_at : vp_in (S 0 18) 1024) : gw_M l y_Model_name prog_8_method_11_code 1 (some .int) gTs (gw_rm 1) D gCl (gTys cI cB cC cZ) 20 ad (rE ad cI cB cZ) gw_rI [.ref (ad 0)] S (f_Model_name S) := by
  refine gw_start gTs_ok (plainFor_of_name (by decide)) hJ (Nat.le_of_ble_eq_true rfl) (fun X A F => ?_)
  refine gw_lve (lv' := [(0, .ref (ad 0))]) rfl ?_
  unfold f_Model_name
  refine gw_aload_n (pc := 0) F 0 d_Model_name_0 rfl rfl ?_
  refine gw_cV (pc := 1) (As := []) (rest := []) F (c_Model_next (gw_FJ F) S hf_at) cw_Model_next cv_Model_next tw_550 rfl (by decide) (by decide) (by decide) rE_Model rfl rfl rfl rfl (Nat.le_of_ble_eq_true rfl) d_Model_name_1 (gw_bI (P := fun r U => vp_in (U 0 18) 1024) (po_at_Model_next S hf_at) (fun r1 S1 p1 => ?_))
  refine gw_bipush (pc := 4) (v := (31 : Int32)) F d_Model_name_4 (by decide) ?_
  refine gw_iand (pc := 6) F d_Model_name_6 ?_
  exact gw_iret (pc := 7) F d_Model_name_7
theorem rb_name (S : gw_S) : vp_in (f_Model_name S).1 32 := gw_and31 _
set_option maxHeartbeats 4000000 in
set_option maxRecDepth 100000 in
theorem po_at_Model_name   (S : gw_S)  (hf_at : vp_in (S 0 18) 1024) : vp_in ((f_Model_name S).2 0 18) 1024 := by
  unfold f_Model_name
  refine po_b (Φ := fun p : Int32 × gw_S => vp_in (p.2 0 18) 1024) (P := fun r U => vp_in (U 0 18) 1024) (po_at_Model_next S hf_at) (fun r1 S1 p1 => ?_)
  exact p1
set_option maxHeartbeats 4000000 in
set_option maxRecDepth 100000 in
theorem po_ok_Model_name   (S : gw_S)  (hf_ok : rOK S) : rOK (f_Model_name S).2 := by
  unfold f_Model_name
  refine po_b (Φ := fun p : Int32 × gw_S => rOK p.2) (P := fun r U => rOK U) (po_ok_Model_next S hf_ok) (fun r1 S1 p1 => ?_)
  exact p1
set_option maxHeartbeats 4000000 in
set_option maxRecDepth 100000 in
theorem po_nz_Model_name {ν : Int32}   (S : gw_S)  (hf_nz : S 0 14 = ν) : (f_Model_name S).2 0 14 = ν := by
  unfold f_Model_name
  refine po_b (Φ := fun p : Int32 × gw_S => p.2 0 14 = ν) (P := fun r U => U 0 14 = ν) (po_nz_Model_next S hf_nz) (fun r1 S1 p1 => ?_)
  exact p1
noncomputable def f_Model_two   (S : gw_S)  : Int32 × gw_S := (gw_b (f_Model_next S) fun r1 S1 => gw_b (f_Model_next S1) fun r10 S10 => (((r1 <<< ((8 : Int32) &&& 31)) ||| r10), S10))
set_option maxHeartbeats 4000000 in
set_option maxRecDepth 100000 in
theorem c_Model_two (hJ : gw_J 20 ad)   (S : gw_S)  (hf_at : vp_in (S 0 18) 1024) : gw_M l y_Model_two prog_8_method_12_code 2 (some .int) gTs (gw_rm 1) D gCl (gTys cI cB cC cZ) 20 ad (rE ad cI cB cZ) gw_rI [.ref (ad 0)] S (f_Model_two S) := by
  refine gw_start gTs_ok (plainFor_of_name (by decide)) hJ (Nat.le_of_ble_eq_true rfl) (fun X A F => ?_)
  refine gw_lve (lv' := [(0, .ref (ad 0))]) rfl ?_
  unfold f_Model_two
  refine gw_aload_n (pc := 0) F 0 d_Model_two_0 rfl rfl ?_
  refine gw_cV (pc := 1) (As := []) (rest := []) F (c_Model_next (gw_FJ F) S hf_at) cw_Model_next cv_Model_next tw_550 rfl (by decide) (by decide) (by decide) rE_Model rfl rfl rfl rfl (Nat.le_of_ble_eq_true rfl) d_Model_two_1 (gw_bI (P := fun r U => vp_in (U 0 18) 1024) (po_at_Model_next S hf_at) (fun r1 S1 p1 => ?_))
  refine gw_istore_n (pc := 4) (lv' := [(1, .int r1), (0, .ref (ad 0))]) F d_Model_two_4 rfl (by decide) rfl ?_
  refine gw_iload_n (pc := 5) F 0 d_Model_two_5 rfl rfl ?_
  refine gw_bipush (pc := 6) (v := (8 : Int32)) F d_Model_two_6 (by decide) ?_
  refine gw_ishl (pc := 8) F d_Model_two_8 ?_
  refine gw_aload_n (pc := 9) F 1 d_Model_two_9 rfl rfl ?_
  refine gw_cV (pc := 10) (As := []) (rest := [.int (r1 <<< ((8 : Int32) &&& 31))]) F (c_Model_next (gw_FJ F) S1 p1) cw_Model_next cv_Model_next tw_550 rfl (by decide) (by decide) (by decide) rE_Model rfl rfl rfl rfl (Nat.le_of_ble_eq_true rfl) d_Model_two_10 (gw_bI (P := fun r U => vp_in (U 0 18) 1024) (po_at_Model_next S1 p1) (fun r10 S10 p10 => ?_))
  refine gw_ior (pc := 13) F d_Model_two_13 ?_
  exact gw_iret (pc := 14) F d_Model_two_14
set_option maxHeartbeats 4000000 in
set_option maxRecDepth 100000 in
theorem po_at_Model_two   (S : gw_S)  (hf_at : vp_in (S 0 18) 1024) : vp_in ((f_Model_two S).2 0 18) 1024 := by
  unfold f_Model_two
  refine po_b (Φ := fun p : Int32 × gw_S => vp_in (p.2 0 18) 1024) (P := fun r U => vp_in (U 0 18) 1024) (po_at_Model_next S hf_at) (fun r1 S1 p1 => ?_)
  refine po_b (Φ := fun p : Int32 × gw_S => vp_in (p.2 0 18) 1024) (P := fun r U => vp_in (U 0 18) 1024) (po_at_Model_next S1 p1) (fun r10 S10 p10 => ?_)
  exact p10
set_option maxHeartbeats 4000000 in
set_option maxRecDepth 100000 in
theorem po_ok_Model_two   (S : gw_S)  (hf_ok : rOK S) : rOK (f_Model_two S).2 := by
  unfold f_Model_two
  refine po_b (Φ := fun p : Int32 × gw_S => rOK p.2) (P := fun r U => rOK U) (po_ok_Model_next S hf_ok) (fun r1 S1 p1 => ?_)
  refine po_b (Φ := fun p : Int32 × gw_S => rOK p.2) (P := fun r U => rOK U) (po_ok_Model_next S1 p1) (fun r10 S10 p10 => ?_)
  exact p10
set_option maxHeartbeats 4000000 in
set_option maxRecDepth 100000 in
theorem po_nz_Model_two {ν : Int32}   (S : gw_S)  (hf_nz : S 0 14 = ν) : (f_Model_two S).2 0 14 = ν := by
  unfold f_Model_two
  refine po_b (Φ := fun p : Int32 × gw_S => p.2 0 14 = ν) (P := fun r U => U 0 14 = ν) (po_nz_Model_next S hf_nz) (fun r1 S1 p1 => ?_)
  refine po_b (Φ := fun p : Int32 × gw_S => p.2 0 14 = ν) (P := fun r U => U 0 14 = ν) (po_nz_Model_next S1 p1) (fun r10 S10 p10 => ?_)
  exact p10
noncomputable def f_Model_signed   (S : gw_S)  : Int32 × gw_S := (gw_b (f_Model_two S) fun r1 S1 => gw_b (f_Model_wrapped S1 r1) fun r4 S4 => (r4, S4))
set_option maxHeartbeats 4000000 in
set_option maxRecDepth 100000 in
theorem c_Model_signed (hJ : gw_J 20 ad)   (S : gw_S)  (hf_at : vp_in (S 0 18) 1024) : gw_M l y_Model_signed prog_8_method_13_code 1 (some .int) gTs (gw_rm 2) D gCl (gTys cI cB cC cZ) 20 ad (rE ad cI cB cZ) gw_rI [.ref (ad 0)] S (f_Model_signed S) := by
  refine gw_start gTs_ok (plainFor_of_name (by decide)) hJ (Nat.le_of_ble_eq_true rfl) (fun X A F => ?_)
  refine gw_lve (lv' := [(0, .ref (ad 0))]) rfl ?_
  unfold f_Model_signed
  refine gw_aload_n (pc := 0) F 0 d_Model_signed_0 rfl rfl ?_
  refine gw_cV (pc := 1) (As := []) (rest := []) F (c_Model_two (gw_FJ F) S hf_at) cw_Model_two cv_Model_two tw_558 rfl (by decide) (by decide) (by decide) rE_Model rfl rfl rfl rfl (Nat.le_of_ble_eq_true rfl) d_Model_signed_1 (gw_bI (P := fun r U => vp_in (U 0 18) 1024) (po_at_Model_two S hf_at) (fun r1 S1 p1 => ?_))
  refine gw_cS (pc := 4) (As := [.int r1]) (rest := []) F (c_Model_wrapped (gw_FJ F) S1 r1) cw_Model_wrapped cv_Model_wrapped tw_523 rfl (by decide) (by decide) rfl rfl (Nat.le_of_ble_eq_true rfl) d_Model_signed_4 (gw_bI (P := fun r U => vp_in (U 0 18) 1024) (po_at_Model_wrapped S1 r1 p1) (fun r4 S4 p4 => ?_))
  exact gw_iret (pc := 7) F d_Model_signed_7
set_option maxHeartbeats 4000000 in
set_option maxRecDepth 100000 in
theorem po_at_Model_signed   (S : gw_S)  (hf_at : vp_in (S 0 18) 1024) : vp_in ((f_Model_signed S).2 0 18) 1024 := by
  unfold f_Model_signed
  refine po_b (Φ := fun p : Int32 × gw_S => vp_in (p.2 0 18) 1024) (P := fun r U => vp_in (U 0 18) 1024) (po_at_Model_two S hf_at) (fun r1 S1 p1 => ?_)
  refine po_b (Φ := fun p : Int32 × gw_S => vp_in (p.2 0 18) 1024) (P := fun r U => vp_in (U 0 18) 1024) (po_at_Model_wrapped S1 r1 p1) (fun r4 S4 p4 => ?_)
  exact p4
set_option maxHeartbeats 4000000 in
set_option maxRecDepth 100000 in
theorem po_ok_Model_signed   (S : gw_S)  (hf_ok : rOK S) : rOK (f_Model_signed S).2 := by
  unfold f_Model_signed
  refine po_b (Φ := fun p : Int32 × gw_S => rOK p.2) (P := fun r U => rOK U) (po_ok_Model_two S hf_ok) (fun r1 S1 p1 => ?_)
  refine po_b (Φ := fun p : Int32 × gw_S => rOK p.2) (P := fun r U => rOK U) (po_ok_Model_wrapped S1 r1 p1) (fun r4 S4 p4 => ?_)
  exact p4
set_option maxHeartbeats 4000000 in
set_option maxRecDepth 100000 in
theorem po_nz_Model_signed {ν : Int32}   (S : gw_S)  (hf_nz : S 0 14 = ν) : (f_Model_signed S).2 0 14 = ν := by
  unfold f_Model_signed
  refine po_b (Φ := fun p : Int32 × gw_S => p.2 0 14 = ν) (P := fun r U => U 0 14 = ν) (po_nz_Model_two S hf_nz) (fun r1 S1 p1 => ?_)
  refine po_b (Φ := fun p : Int32 × gw_S => p.2 0 14 = ν) (P := fun r U => U 0 14 = ν) (po_nz_Model_wrapped S1 r1 p1) (fun r4 S4 p4 => ?_)
  exact p4
noncomputable def f_Model_place   (S : gw_S)  : Int32 × gw_S := (gw_b (f_Model_two S) fun r1 S1 => ((r1 &&& (1023 : Int32)), S1))
set_option maxHeartbeats 4000000 in
set_option maxRecDepth 100000 in
theorem c_Model_place (hJ : gw_J 20 ad)   (S : gw_S)  (hf_at : vp_in (S 0 18) 1024) : gw_M l y_Model_place prog_8_method_14_code 1 (some .int) gTs (gw_rm 2) D gCl (gTys cI cB cC cZ) 20 ad (rE ad cI cB cZ) gw_rI [.ref (ad 0)] S (f_Model_place S) := by
  refine gw_start gTs_ok (plainFor_of_name (by decide)) hJ (Nat.le_of_ble_eq_true rfl) (fun X A F => ?_)
  refine gw_lve (lv' := [(0, .ref (ad 0))]) rfl ?_
  unfold f_Model_place
  refine gw_aload_n (pc := 0) F 0 d_Model_place_0 rfl rfl ?_
  refine gw_cV (pc := 1) (As := []) (rest := []) F (c_Model_two (gw_FJ F) S hf_at) cw_Model_two cv_Model_two tw_558 rfl (by decide) (by decide) (by decide) rE_Model rfl rfl rfl rfl (Nat.le_of_ble_eq_true rfl) d_Model_place_1 (gw_bI (P := fun r U => vp_in (U 0 18) 1024) (po_at_Model_two S hf_at) (fun r1 S1 p1 => ?_))
  refine gw_sipush (pc := 4) (v := (1023 : Int32)) F d_Model_place_4 (by decide) ?_
  refine gw_iand (pc := 7) F d_Model_place_7 ?_
  exact gw_iret (pc := 8) F d_Model_place_8
theorem rb_place (S : gw_S) : vp_in (f_Model_place S).1 1024 := gw_and1023 _
set_option maxHeartbeats 4000000 in
set_option maxRecDepth 100000 in
theorem po_at_Model_place   (S : gw_S)  (hf_at : vp_in (S 0 18) 1024) : vp_in ((f_Model_place S).2 0 18) 1024 := by
  unfold f_Model_place
  refine po_b (Φ := fun p : Int32 × gw_S => vp_in (p.2 0 18) 1024) (P := fun r U => vp_in (U 0 18) 1024) (po_at_Model_two S hf_at) (fun r1 S1 p1 => ?_)
  exact p1
set_option maxHeartbeats 4000000 in
set_option maxRecDepth 100000 in
theorem po_ok_Model_place   (S : gw_S)  (hf_ok : rOK S) : rOK (f_Model_place S).2 := by
  unfold f_Model_place
  refine po_b (Φ := fun p : Int32 × gw_S => rOK p.2) (P := fun r U => rOK U) (po_ok_Model_two S hf_ok) (fun r1 S1 p1 => ?_)
  exact p1
set_option maxHeartbeats 4000000 in
set_option maxRecDepth 100000 in
theorem po_nz_Model_place {ν : Int32}   (S : gw_S)  (hf_nz : S 0 14 = ν) : (f_Model_place S).2 0 14 = ν := by
  unfold f_Model_place
  refine po_b (Φ := fun p : Int32 × gw_S => p.2 0 14 = ν) (P := fun r U => U 0 14 = ν) (po_nz_Model_two S hf_nz) (fun r1 S1 p1 => ?_)
  exact p1
noncomputable def f_Model_page   (S : gw_S)  : Int32 × gw_S := (gw_b (f_Model_next S) fun r1 S1 => if (128 : Int32) ≤ r1 then (if r1 = (254 : Int32) then (((S1 0 5), S1)) else (((S1 0 4), S1))) else (((r1 &&& (3 : Int32)), S1)))
set_option maxHeartbeats 4000000 in
set_option maxRecDepth 100000 in
theorem c_Model_page (hJ : gw_J 20 ad)   (S : gw_S)  (hf_at : vp_in (S 0 18) 1024) (hf_ok : rOK S) : gw_M l y_Model_page prog_8_method_15_code 2 (some .int) gTs (gw_rm 1) D gCl (gTys cI cB cC cZ) 20 ad (rE ad cI cB cZ) gw_rI [.ref (ad 0)] S (f_Model_page S) := by
  refine gw_start gTs_ok (plainFor_of_name (by decide)) hJ (Nat.le_of_ble_eq_true rfl) (fun X A F => ?_)
  refine gw_lve (lv' := [(0, .ref (ad 0))]) rfl ?_
  unfold f_Model_page
  refine gw_aload_n (pc := 0) F 0 d_Model_page_0 rfl rfl ?_
  refine gw_cV (pc := 1) (As := []) (rest := []) F (c_Model_next (gw_FJ F) S hf_at) cw_Model_next cv_Model_next tw_550 rfl (by decide) (by decide) (by decide) rE_Model rfl rfl rfl rfl (Nat.le_of_ble_eq_true rfl) d_Model_page_1 (gw_bI (P := fun r U => vp_in (U 0 18) 1024 ∧ rOK U) ⟨(po_at_Model_next S hf_at), (po_ok_Model_next S hf_ok)⟩ (fun r1 S1 p1 => ?_))
  refine gw_istore_n (pc := 4) (lv' := [(1, .int r1), (0, .ref (ad 0))]) F d_Model_page_4 rfl (by decide) rfl ?_
  refine gw_iload_n (pc := 5) F 0 d_Model_page_5 rfl rfl ?_
  refine gw_sipush (pc := 6) (v := (128 : Int32)) F d_Model_page_6 (by decide) ?_
  refine gw_icmp_geS (pc := 9) (tgt := 18) F d_Model_page_9 (by decide) (fun h9 => ?_) (fun h9 => ?_)
  · refine gw_iload_n (pc := 18) F 0 d_Model_page_18 rfl rfl ?_
    refine gw_sipush (pc := 19) (v := (254 : Int32)) F d_Model_page_19 (by decide) ?_
    refine gw_icmp_neS (pc := 22) (tgt := 32) F d_Model_page_22 (by decide) (fun h22 => ?_) (fun h22 => ?_)
    · refine gw_aload_n (pc := 32) F 1 d_Model_page_32 rfl rfl ?_
      refine rg_Model_working (pc := 33) F tw_411 d_Model_page_33 ?_
      exact gw_iret (pc := 36) F d_Model_page_36
    · refine gw_aload_n (pc := 25) F 1 d_Model_page_25 rfl rfl ?_
      refine rg_Model_shown (pc := 26) F tw_412 d_Model_page_26 ?_
      refine gw_goto (pc := 29) (tgt := 36) F d_Model_page_29 (by decide) ?_
      exact gw_iret (pc := 36) F d_Model_page_36
  · refine gw_iload_n (pc := 12) F 0 d_Model_page_12 rfl rfl ?_
    refine gw_iconst (pc := 13) (v := (3 : Int32)) F d_Model_page_13 (by decide) ?_
    refine gw_iand (pc := 14) F d_Model_page_14 ?_
    refine gw_goto (pc := 15) (tgt := 36) F d_Model_page_15 (by decide) ?_
    exact gw_iret (pc := 36) F d_Model_page_36
theorem rb_page (S : gw_S) (h : rOK S) : vp_in (f_Model_page S).1 4 := by
  unfold f_Model_page
  refine po_b (Φ := fun p : Int32 × gw_S => vp_in p.1 4) (P := fun _ U => rOK U) (po_ok_Model_next S h) (fun r U p => ?_)
  refine po_if (Φ := fun p : Int32 × gw_S => vp_in p.1 4) (fun _ => ?_) (fun _ => gw_and3 _)
  exact po_if (Φ := fun p : Int32 × gw_S => vp_in p.1 4) (fun _ => (p 0 5).1 rfl (Or.inr rfl)) (fun _ => (p 0 4).1 rfl (Or.inl rfl))
set_option maxHeartbeats 4000000 in
set_option maxRecDepth 100000 in
theorem po_at_Model_page   (S : gw_S)  (hf_at : vp_in (S 0 18) 1024) : vp_in ((f_Model_page S).2 0 18) 1024 := by
  unfold f_Model_page
  refine po_b (Φ := fun p : Int32 × gw_S => vp_in (p.2 0 18) 1024) (P := fun r U => vp_in (U 0 18) 1024) (po_at_Model_next S hf_at) (fun r1 S1 p1 => ?_)
  refine po_if (Φ := fun p : Int32 × gw_S => vp_in (p.2 0 18) 1024) (fun h9 => ?_) (fun h9 => ?_)
  · refine po_if (Φ := fun p : Int32 × gw_S => vp_in (p.2 0 18) 1024) (fun h22 => ?_) (fun h22 => ?_)
    · exact p1
    · exact p1
  · exact p1
set_option maxHeartbeats 4000000 in
set_option maxRecDepth 100000 in
theorem po_ok_Model_page   (S : gw_S)  (hf_ok : rOK S) (hf_at : vp_in (S 0 18) 1024) : rOK (f_Model_page S).2 := by
  unfold f_Model_page
  refine po_b (Φ := fun p : Int32 × gw_S => rOK p.2) (P := fun r U => vp_in (U 0 18) 1024 ∧ rOK U) ⟨(po_at_Model_next S hf_at), (po_ok_Model_next S hf_ok)⟩ (fun r1 S1 p1 => ?_)
  refine po_if (Φ := fun p : Int32 × gw_S => rOK p.2) (fun h9 => ?_) (fun h9 => ?_)
  · refine po_if (Φ := fun p : Int32 × gw_S => rOK p.2) (fun h22 => ?_) (fun h22 => ?_)
    · exact p1.2
    · exact p1.2
  · exact p1.2
set_option maxHeartbeats 4000000 in
set_option maxRecDepth 100000 in
theorem po_nz_Model_page {ν : Int32}   (S : gw_S)  (hf_nz : S 0 14 = ν) (hf_at : vp_in (S 0 18) 1024) (hf_ok : rOK S) : (f_Model_page S).2 0 14 = ν := by
  unfold f_Model_page
  refine po_b (Φ := fun p : Int32 × gw_S => p.2 0 14 = ν) (P := fun r U => vp_in (U 0 18) 1024 ∧ rOK U ∧ U 0 14 = ν) ⟨(po_at_Model_next S hf_at), (po_ok_Model_next S hf_ok), (po_nz_Model_next S hf_nz)⟩ (fun r1 S1 p1 => ?_)
  refine po_if (Φ := fun p : Int32 × gw_S => p.2 0 14 = ν) (fun h9 => ?_) (fun h9 => ?_)
  · refine po_if (Φ := fun p : Int32 × gw_S => p.2 0 14 = ν) (fun h22 => ?_) (fun h22 => ?_)
    · exact p1.2.2
    · exact p1.2.2
  · exact p1.2.2
noncomputable def f_Model_fails   (S : gw_S) (a1 : Int32) : Unit × gw_S := (gw_n (gw_u S 0 19 a1) fun S2 => gw_n (gw_u S2 0 20 (0 : Int32)) fun S7 => ((), S7))
set_option maxHeartbeats 4000000 in
set_option maxRecDepth 100000 in
theorem c_Model_fails (hJ : gw_J 20 ad)   (S : gw_S) (a1 : Int32) : gw_M l y_Model_fails prog_8_method_16_code 2 none gTs (gw_rm 0) D gCl (gTys cI cB cC cZ) 20 ad (rE ad cI cB cZ) gw_rV [.ref (ad 0), .int a1] S (f_Model_fails S a1) := by
  refine gw_start gTs_ok (plainFor_of_name (by decide)) hJ (Nat.le_of_ble_eq_true rfl) (fun X A F => ?_)
  refine gw_lve (lv' := [(0, .ref (ad 0)), (1, .int a1)]) rfl ?_
  unfold f_Model_fails
  refine gw_aload_n (pc := 0) F 0 d_Model_fails_0 rfl rfl ?_
  refine gw_iload_n (pc := 1) F 1 d_Model_fails_1 rfl rfl ?_
  refine rp_Model_fault (pc := 2) F tw_426 d_Model_fails_2 ?_
  refine gw_nS (fun S2 E2 => ?_)
  refine gw_aload_n (pc := 5) F 0 d_Model_fails_5 rfl rfl ?_
  refine gw_iconst (pc := 6) (v := (0 : Int32)) F d_Model_fails_6 (by decide) ?_
  refine rp_Model_on (pc := 7) F tw_427 d_Model_fails_7 rfl rfl ?_
  refine gw_nS (fun S7 E7 => ?_)
  exact gw_vret (pc := 10) F d_Model_fails_10
set_option maxHeartbeats 4000000 in
set_option maxRecDepth 100000 in
theorem po_at_Model_fails   (S : gw_S) (a1 : Int32) (hf_at : vp_in (S 0 18) 1024) : vp_in ((f_Model_fails S a1).2 0 18) 1024 := by
  unfold f_Model_fails
  refine po_n (Φ := fun p : Unit × gw_S => vp_in (p.2 0 18) 1024) (fun S2 E2 => ?_)
  refine po_n (Φ := fun p : Unit × gw_S => vp_in (p.2 0 18) 1024) (fun S7 E7 => ?_)
  exact (rOK_keep (P := fun z => vp_in z 1024) E7 (rOK_keep (P := fun z => vp_in z 1024) E2 hf_at (by omega)) (by omega))
set_option maxHeartbeats 4000000 in
set_option maxRecDepth 100000 in
theorem po_ok_Model_fails   (S : gw_S) (a1 : Int32) (hf_ok : rOK S) : rOK (f_Model_fails S a1).2 := by
  unfold f_Model_fails
  refine po_n (Φ := fun p : Unit × gw_S => rOK p.2) (fun S2 E2 => ?_)
  refine po_n (Φ := fun p : Unit × gw_S => rOK p.2) (fun S7 E7 => ?_)
  exact (rOK_f E7 (rOK_f E2 hf_ok (by omega)) (by omega))
set_option maxHeartbeats 4000000 in
set_option maxRecDepth 100000 in
theorem po_nz_Model_fails {ν : Int32}   (S : gw_S) (a1 : Int32) (hf_nz : S 0 14 = ν) : (f_Model_fails S a1).2 0 14 = ν := by
  unfold f_Model_fails
  refine po_n (Φ := fun p : Unit × gw_S => p.2 0 14 = ν) (fun S2 E2 => ?_)
  refine po_n (Φ := fun p : Unit × gw_S => p.2 0 14 = ν) (fun S7 E7 => ?_)
  exact (rOK_keep (P := fun z => z = ν) E7 (rOK_keep (P := fun z => z = ν) E2 hf_nz (by omega)) (by omega))
end
