section
variable {l : Launch} {D : va_G} {cI cB cC cZ : ClassId} {ad : Nat → Nat}
noncomputable def fl_Model_put_25   (a1 : Int32) (a2 : Int32) (a3 : Int32) (n : Nat) : gw_S → Int32 → Int32 × gw_S := gw_L1 (fun self S x4 => (if (4 : Int32) ≤ x4 then (((1 : Int32), S)) else (gw_n ((a3 >>> (((24 : Int32) - ((8 : Int32) * x4)) &&& 31)) &&& (255 : Int32)) fun v45 => if a1 = 0 then (gw_n (gw_u S 1 ((a2 + x4) : Int32).toNatClampNeg v45) fun S61 => (self S61 (x4 + (1 : Int32)))) else (gw_n (gw_u S 2 ((a2 + x4) : Int32).toNatClampNeg v45) fun S75 => (self S75 (x4 + (1 : Int32))))))) (fun S _ => (0, S)) n
set_option maxHeartbeats 4000000 in
set_option maxRecDepth 100000 in
theorem l_Model_put_25 {X : gx_M} {A : Nat → Prop}  (F : gw_F X l prog_8_method_5_code 6 (some .boolean) "StageMachineModel" gTs (gw_rm 1) D gCl (gTys cI cB cC cZ) 20 ad A) (a1 : Int32) (a2 : Int32) (a3 : Int32) (ha2 : vp_in a2 1021) : ∀ (n : Nat) (S : gw_S) (x4 : Int32), 0 < n → ((4 : Int32) : Int32).toInt - x4.toInt < (n : Int) → 0 ≤ x4.toInt → gw_V X (gw_P D gCl 20 ad (rE ad cI cB cZ)) A 6 gw_rI S 25 [(0, .ref (ad 0)), (1, .int a1), (2, .int a2), (3, .int a3), (4, .int x4)] [] (fl_Model_put_25 a1 a2 a3 n S x4) := by
  intro n
  induction n with
  | zero => intro S x4 hn hf h0; exact absurd hn (Nat.lt_irrefl 0)
  | succ n ih =>
    intro S x4 hn hf h0
    refine gw_iload (pc := 25) F 4 d_Model_put_25 rfl ?_
    refine gw_iconst (pc := 27) (v := (4 : Int32)) F d_Model_put_27 (by decide) ?_
    refine gw_icmp_geS (pc := 28) (tgt := 82) F d_Model_put_28 (by decide) (fun h28 => ?_) (fun h28 => ?_)
    · refine gw_iconst (pc := 82) (v := (1 : Int32)) F d_Model_put_82 (by decide) ?_
      exact gw_zret (pc := 83) F d_Model_put_83 rfl
    · refine gw_iload_n (pc := 31) F 3 d_Model_put_31 rfl rfl ?_
      refine gw_bipush (pc := 32) (v := (24 : Int32)) F d_Model_put_32 (by decide) ?_
      refine gw_bipush (pc := 34) (v := (8 : Int32)) F d_Model_put_34 (by decide) ?_
      refine gw_iload (pc := 36) F 4 d_Model_put_36 rfl ?_
      refine gw_imul (pc := 38) F d_Model_put_38 ?_
      refine gw_isub (pc := 39) F d_Model_put_39 ?_
      refine gw_ishr (pc := 40) F d_Model_put_40 ?_
      refine gw_sipush (pc := 41) (v := (255 : Int32)) F d_Model_put_41 (by decide) ?_
      refine gw_iand (pc := 44) F d_Model_put_44 ?_
      refine gw_nI (fun v45 e45 => ?_)
      refine gw_istore (pc := 45) (lv' := [(5, .int v45), (0, .ref (ad 0)), (1, .int a1), (2, .int a2), (3, .int a3), (4, .int x4)]) F d_Model_put_45 (by decide) rfl ?_
      refine gw_iload_n (pc := 47) F 2 d_Model_put_47 rfl rfl ?_
      refine gw_if_neS (pc := 48) (tgt := 65) F d_Model_put_48 (by decide) (fun h48 => ?_) (fun h48 => ?_)
      · refine gw_aload_n (pc := 65) F 1 d_Model_put_65 rfl rfl ?_
        refine rg_Model_shapes (pc := 66) F tw_408 d_Model_put_66 ?_
        refine gw_iload_n (pc := 69) F 3 d_Model_put_69 rfl rfl ?_
        refine gw_iload (pc := 70) F 5 d_Model_put_70 rfl ?_
        refine gw_iadd (pc := 72) F d_Model_put_72 ?_
        refine gw_iload (pc := 73) F 0 d_Model_put_73 rfl ?_
        refine rs_MShp (pc := 75) F (gw_in4 ha2 h28 h0) d_Model_put_75 ?_
        refine gw_nS (fun S75 E75 => ?_)
        refine gw_iinc (pc := 76) (v := (x4 + (1 : Int32))) (lv' := [(4, .int (x4 + (1 : Int32))), (5, .int v45), (0, .ref (ad 0)), (1, .int a1), (2, .int a2), (3, .int a3)]) F 5 d_Model_put_76 rfl (congrArg (HAdd.hAdd x4) (by decide)) (by decide) rfl ?_
        refine gw_goto (pc := 79) (tgt := 25) F d_Model_put_79 (by decide) ?_
        refine gw_lvs (lv' := [(0, .ref (ad 0)), (1, .int a1), (2, .int a2), (3, .int a3), (4, .int (x4 + (1 : Int32)))]) [2, 3, 4, 5, 0] rfl ?_
        exact ih S75 (x4 + (1 : Int32)) (gw_stp h28 hf).1 (gw_stp h28 hf).2.1 (gw_stp0 h28 h0)
      · refine gw_aload_n (pc := 51) F 1 d_Model_put_51 rfl rfl ?_
        refine rg_Model_program (pc := 52) F tw_407 d_Model_put_52 ?_
        refine gw_iload_n (pc := 55) F 3 d_Model_put_55 rfl rfl ?_
        refine gw_iload (pc := 56) F 5 d_Model_put_56 rfl ?_
        refine gw_iadd (pc := 58) F d_Model_put_58 ?_
        refine gw_iload (pc := 59) F 0 d_Model_put_59 rfl ?_
        refine rs_MProg (pc := 61) F (gw_in4 ha2 h28 h0) d_Model_put_61 ?_
        refine gw_nS (fun S61 E61 => ?_)
        refine gw_goto (pc := 62) (tgt := 76) F d_Model_put_62 (by decide) ?_
        refine gw_iinc (pc := 76) (v := (x4 + (1 : Int32))) (lv' := [(4, .int (x4 + (1 : Int32))), (5, .int v45), (0, .ref (ad 0)), (1, .int a1), (2, .int a2), (3, .int a3)]) F 5 d_Model_put_76 rfl (congrArg (HAdd.hAdd x4) (by decide)) (by decide) rfl ?_
        refine gw_goto (pc := 79) (tgt := 25) F d_Model_put_79 (by decide) ?_
        refine gw_lvs (lv' := [(0, .ref (ad 0)), (1, .int a1), (2, .int a2), (3, .int a3), (4, .int (x4 + (1 : Int32)))]) [2, 3, 4, 5, 0] rfl ?_
        exact ih S61 (x4 + (1 : Int32)) (gw_stp h28 hf).1 (gw_stp h28 hf).2.1 (gw_stp0 h28 h0)
noncomputable def f_Model_put   (S : gw_S) (a1 : Int32) (a2 : Int32) (a3 : Int32) : Int32 × gw_S := (gw_b (f_Model_in S a1 (0 : Int32) (1 : Int32)) fun r3 S3 => if r3 = 0 then (((0 : Int32), S3)) else (gw_b (f_Model_in S3 a2 (0 : Int32) (1020 : Int32)) fun r14 S14 => if r14 = 0 then (((0 : Int32), S14)) else (fl_Model_put_25 a1 a2 a3 (gw_fu (((4 : Int32) : Int32).toInt - ((0 : Int32) : Int32).toInt)) S14 (0 : Int32))))
set_option maxHeartbeats 4000000 in
set_option maxRecDepth 100000 in
theorem c_Model_put (hJ : gw_J 20 ad)   (S : gw_S) (a1 : Int32) (a2 : Int32) (a3 : Int32) : gw_M l y_Model_put prog_8_method_5_code 6 (some .boolean) gTs (gw_rm 1) D gCl (gTys cI cB cC cZ) 20 ad (rE ad cI cB cZ) gw_rI [.ref (ad 0), .int a1, .int a2, .int a3] S (f_Model_put S a1 a2 a3) := by
  refine gw_start gTs_ok (plainFor_of_name (by decide)) hJ (Nat.le_of_ble_eq_true rfl) (fun X A F => ?_)
  refine gw_lve (lv' := [(0, .ref (ad 0)), (1, .int a1), (2, .int a2), (3, .int a3)]) rfl ?_
  unfold f_Model_put
  refine gw_iload_n (pc := 0) F 1 d_Model_put_0 rfl rfl ?_
  refine gw_iconst (pc := 1) (v := (0 : Int32)) F d_Model_put_1 (by decide) ?_
  refine gw_iconst (pc := 2) (v := (1 : Int32)) F d_Model_put_2 (by decide) ?_
  refine gw_cS (pc := 3) (As := [.int a1, .int (0 : Int32), .int (1 : Int32)]) (rest := []) F (c_Model_in (gw_FJ F) S a1 (0 : Int32) (1 : Int32)) cw_Model_in cv_Model_in tw_512 rfl (by decide) (by decide) rfl rfl (Nat.le_of_ble_eq_true rfl) d_Model_put_3 (gw_bI (P := fun r U => (¬ r = 0 → vp_in a1 2)) (rb_in2 S a1) (fun r3 S3 p3 => ?_))
  refine gw_if_eqS (pc := 6) (tgt := 20) F d_Model_put_6 (by decide) (fun h6 => ?_) (fun h6 => ?_)
  · refine gw_iconst (pc := 20) (v := (0 : Int32)) F d_Model_put_20 (by decide) ?_
    exact gw_zret (pc := 21) F d_Model_put_21 rfl
  · refine gw_iload_n (pc := 9) F 2 d_Model_put_9 rfl rfl ?_
    refine gw_iconst (pc := 10) (v := (0 : Int32)) F d_Model_put_10 (by decide) ?_
    refine gw_sipush (pc := 11) (v := (1020 : Int32)) F d_Model_put_11 (by decide) ?_
    refine gw_cS (pc := 14) (As := [.int a2, .int (0 : Int32), .int (1020 : Int32)]) (rest := []) F (c_Model_in (gw_FJ F) S3 a2 (0 : Int32) (1020 : Int32)) cw_Model_in cv_Model_in tw_512 rfl (by decide) (by decide) rfl rfl (Nat.le_of_ble_eq_true rfl) d_Model_put_14 (gw_bI (P := fun r U => (¬ r = 0 → vp_in a2 1021)) (rb_in1021 S3 a2) (fun r14 S14 p14 => ?_))
    refine gw_if_neS (pc := 17) (tgt := 22) F d_Model_put_17 (by decide) (fun h17 => ?_) (fun h17 => ?_)
    · refine gw_iconst (pc := 22) (v := (0 : Int32)) F d_Model_put_22 (by decide) ?_
      refine gw_istore (pc := 23) (lv' := [(4, .int (0 : Int32)), (0, .ref (ad 0)), (1, .int a1), (2, .int a2), (3, .int a3)]) F d_Model_put_23 (by decide) rfl ?_
      refine gw_lvs (lv' := [(0, .ref (ad 0)), (1, .int a1), (2, .int a2), (3, .int a3), (4, .int (0 : Int32))]) [1, 2, 3, 4, 0] rfl ?_
      exact l_Model_put_25  F a1 a2 a3 (p14 h17) (gw_fu (((4 : Int32) : Int32).toInt - ((0 : Int32) : Int32).toInt)) S14 (0 : Int32) (gw_fu_pos _) (gw_fu_lt _) (by decide)
    · refine gw_iconst (pc := 20) (v := (0 : Int32)) F d_Model_put_20 (by decide) ?_
      exact gw_zret (pc := 21) F d_Model_put_21 rfl
set_option maxHeartbeats 4000000 in
set_option maxRecDepth 100000 in
theorem pl_at_Model_put_25  (a1 : Int32) (a2 : Int32) (a3 : Int32) (ha2 : vp_in a2 1021) : ∀ (n : Nat) (S : gw_S) (x4 : Int32), 0 < n → ((4 : Int32) : Int32).toInt - x4.toInt < (n : Int) → 0 ≤ x4.toInt → vp_in (S 0 18) 1024 → vp_in ((fl_Model_put_25 a1 a2 a3 n S x4).2 0 18) 1024 := by
  intro n
  induction n with
  | zero => intro S x4 hn hf h0 hf_at; exact absurd hn (Nat.lt_irrefl 0)
  | succ n ih =>
    intro S x4 hn hf h0 hf_at
    refine po_if (Φ := fun p : Int32 × gw_S => vp_in (p.2 0 18) 1024) (fun h28 => ?_) (fun h28 => ?_)
    · exact hf_at
    · refine po_n (Φ := fun p : Int32 × gw_S => vp_in (p.2 0 18) 1024) (fun v45 e45 => ?_)
      refine po_if (Φ := fun p : Int32 × gw_S => vp_in (p.2 0 18) 1024) (fun h48 => ?_) (fun h48 => ?_)
      · refine po_n (Φ := fun p : Int32 × gw_S => vp_in (p.2 0 18) 1024) (fun S61 E61 => ?_)
        exact ih S61 (x4 + (1 : Int32)) (gw_stp h28 hf).1 (gw_stp h28 hf).2.1 (gw_stp0 h28 h0) (rOK_keep (P := fun z => vp_in z 1024) E61 hf_at (by omega))
      · refine po_n (Φ := fun p : Int32 × gw_S => vp_in (p.2 0 18) 1024) (fun S75 E75 => ?_)
        exact ih S75 (x4 + (1 : Int32)) (gw_stp h28 hf).1 (gw_stp h28 hf).2.1 (gw_stp0 h28 h0) (rOK_keep (P := fun z => vp_in z 1024) E75 hf_at (by omega))
set_option maxHeartbeats 4000000 in
set_option maxRecDepth 100000 in
theorem po_at_Model_put   (S : gw_S) (a1 : Int32) (a2 : Int32) (a3 : Int32) (hf_at : vp_in (S 0 18) 1024) : vp_in ((f_Model_put S a1 a2 a3).2 0 18) 1024 := by
  unfold f_Model_put
  refine po_b (Φ := fun p : Int32 × gw_S => vp_in (p.2 0 18) 1024) (P := fun r U => vp_in (U 0 18) 1024 ∧ (¬ r = 0 → vp_in a1 2)) ⟨(po_at_Model_in S a1 (0 : Int32) (1 : Int32) hf_at), (rb_in2 S a1)⟩ (fun r3 S3 p3 => ?_)
  refine po_if (Φ := fun p : Int32 × gw_S => vp_in (p.2 0 18) 1024) (fun h6 => ?_) (fun h6 => ?_)
  · exact p3.1
  · refine po_b (Φ := fun p : Int32 × gw_S => vp_in (p.2 0 18) 1024) (P := fun r U => vp_in (U 0 18) 1024 ∧ (¬ r = 0 → vp_in a2 1021)) ⟨(po_at_Model_in S3 a2 (0 : Int32) (1020 : Int32) p3.1), (rb_in1021 S3 a2)⟩ (fun r14 S14 p14 => ?_)
    refine po_if (Φ := fun p : Int32 × gw_S => vp_in (p.2 0 18) 1024) (fun h17 => ?_) (fun h17 => ?_)
    · exact p14.1
    · exact pl_at_Model_put_25 a1 a2 a3 (p14.2 h17) (gw_fu (((4 : Int32) : Int32).toInt - ((0 : Int32) : Int32).toInt)) S14 (0 : Int32) (gw_fu_pos _) (gw_fu_lt _) (by decide) p14.1
set_option maxHeartbeats 4000000 in
set_option maxRecDepth 100000 in
theorem pl_ok_Model_put_25  (a1 : Int32) (a2 : Int32) (a3 : Int32) (ha2 : vp_in a2 1021) : ∀ (n : Nat) (S : gw_S) (x4 : Int32), 0 < n → ((4 : Int32) : Int32).toInt - x4.toInt < (n : Int) → 0 ≤ x4.toInt → rOK S → rOK (fl_Model_put_25 a1 a2 a3 n S x4).2 := by
  intro n
  induction n with
  | zero => intro S x4 hn hf h0 hf_ok; exact absurd hn (Nat.lt_irrefl 0)
  | succ n ih =>
    intro S x4 hn hf h0 hf_ok
    refine po_if (Φ := fun p : Int32 × gw_S => rOK p.2) (fun h28 => ?_) (fun h28 => ?_)
    · exact hf_ok
    · refine po_n (Φ := fun p : Int32 × gw_S => rOK p.2) (fun v45 e45 => ?_)
      refine po_if (Φ := fun p : Int32 × gw_S => rOK p.2) (fun h48 => ?_) (fun h48 => ?_)
      · refine po_n (Φ := fun p : Int32 × gw_S => rOK p.2) (fun S61 E61 => ?_)
        exact ih S61 (x4 + (1 : Int32)) (gw_stp h28 hf).1 (gw_stp h28 hf).2.1 (gw_stp0 h28 h0) (rOK_c E61 hf_ok (by omega))
      · refine po_n (Φ := fun p : Int32 × gw_S => rOK p.2) (fun S75 E75 => ?_)
        exact ih S75 (x4 + (1 : Int32)) (gw_stp h28 hf).1 (gw_stp h28 hf).2.1 (gw_stp0 h28 h0) (rOK_c E75 hf_ok (by omega))
set_option maxHeartbeats 4000000 in
set_option maxRecDepth 100000 in
theorem po_ok_Model_put   (S : gw_S) (a1 : Int32) (a2 : Int32) (a3 : Int32) (hf_ok : rOK S) : rOK (f_Model_put S a1 a2 a3).2 := by
  unfold f_Model_put
  refine po_b (Φ := fun p : Int32 × gw_S => rOK p.2) (P := fun r U => rOK U ∧ (¬ r = 0 → vp_in a1 2)) ⟨(po_ok_Model_in S a1 (0 : Int32) (1 : Int32) hf_ok), (rb_in2 S a1)⟩ (fun r3 S3 p3 => ?_)
  refine po_if (Φ := fun p : Int32 × gw_S => rOK p.2) (fun h6 => ?_) (fun h6 => ?_)
  · exact p3.1
  · refine po_b (Φ := fun p : Int32 × gw_S => rOK p.2) (P := fun r U => rOK U ∧ (¬ r = 0 → vp_in a2 1021)) ⟨(po_ok_Model_in S3 a2 (0 : Int32) (1020 : Int32) p3.1), (rb_in1021 S3 a2)⟩ (fun r14 S14 p14 => ?_)
    refine po_if (Φ := fun p : Int32 × gw_S => rOK p.2) (fun h17 => ?_) (fun h17 => ?_)
    · exact p14.1
    · exact pl_ok_Model_put_25 a1 a2 a3 (p14.2 h17) (gw_fu (((4 : Int32) : Int32).toInt - ((0 : Int32) : Int32).toInt)) S14 (0 : Int32) (gw_fu_pos _) (gw_fu_lt _) (by decide) p14.1
noncomputable def f_Model_byteAt   (S : gw_S) (a1 : Int32) (a2 : Int32) : Int32 × gw_S := (gw_b (f_Model_in S a1 (0 : Int32) (1 : Int32)) fun r3 S3 => if r3 = 0 then (((-1 : Int32), S3)) else (gw_b (f_Model_in S3 a2 (0 : Int32) (1023 : Int32)) fun r14 S14 => if r14 = 0 then (((-1 : Int32), S14)) else (if a1 = 0 then (((S14 1 (a2 : Int32).toNatClampNeg), S14)) else (((S14 2 (a2 : Int32).toNatClampNeg), S14)))))
set_option maxHeartbeats 4000000 in
set_option maxRecDepth 100000 in
theorem c_Model_byteAt (hJ : gw_J 20 ad)   (S : gw_S) (a1 : Int32) (a2 : Int32) : gw_M l y_Model_byteAt prog_8_method_6_code 3 (some .int) gTs (gw_rm 1) D gCl (gTys cI cB cC cZ) 20 ad (rE ad cI cB cZ) gw_rI [.ref (ad 0), .int a1, .int a2] S (f_Model_byteAt S a1 a2) := by
  refine gw_start gTs_ok (plainFor_of_name (by decide)) hJ (Nat.le_of_ble_eq_true rfl) (fun X A F => ?_)
  refine gw_lve (lv' := [(0, .ref (ad 0)), (1, .int a1), (2, .int a2)]) rfl ?_
  unfold f_Model_byteAt
  refine gw_iload_n (pc := 0) F 1 d_Model_byteAt_0 rfl rfl ?_
  refine gw_iconst (pc := 1) (v := (0 : Int32)) F d_Model_byteAt_1 (by decide) ?_
  refine gw_iconst (pc := 2) (v := (1 : Int32)) F d_Model_byteAt_2 (by decide) ?_
  refine gw_cS (pc := 3) (As := [.int a1, .int (0 : Int32), .int (1 : Int32)]) (rest := []) F (c_Model_in (gw_FJ F) S a1 (0 : Int32) (1 : Int32)) cw_Model_in cv_Model_in tw_512 rfl (by decide) (by decide) rfl rfl (Nat.le_of_ble_eq_true rfl) d_Model_byteAt_3 (gw_bI (P := fun r U => True) trivial (fun r3 S3 p3 => ?_))
  refine gw_if_eqS (pc := 6) (tgt := 20) F d_Model_byteAt_6 (by decide) (fun h6 => ?_) (fun h6 => ?_)
  · refine gw_iconst (pc := 20) (v := (-1 : Int32)) F d_Model_byteAt_20 (by decide) ?_
    exact gw_iret (pc := 21) F d_Model_byteAt_21
  · refine gw_iload_n (pc := 9) F 2 d_Model_byteAt_9 rfl rfl ?_
    refine gw_iconst (pc := 10) (v := (0 : Int32)) F d_Model_byteAt_10 (by decide) ?_
    refine gw_sipush (pc := 11) (v := (1023 : Int32)) F d_Model_byteAt_11 (by decide) ?_
    refine gw_cS (pc := 14) (As := [.int a2, .int (0 : Int32), .int (1023 : Int32)]) (rest := []) F (c_Model_in (gw_FJ F) S3 a2 (0 : Int32) (1023 : Int32)) cw_Model_in cv_Model_in tw_512 rfl (by decide) (by decide) rfl rfl (Nat.le_of_ble_eq_true rfl) d_Model_byteAt_14 (gw_bI (P := fun r U => (¬ r = 0 → vp_in a2 1024)) (rb_in1024 S3 a2) (fun r14 S14 p14 => ?_))
    refine gw_if_neS (pc := 17) (tgt := 22) F d_Model_byteAt_17 (by decide) (fun h17 => ?_) (fun h17 => ?_)
    · refine gw_iload_n (pc := 22) F 1 d_Model_byteAt_22 rfl rfl ?_
      refine gw_if_neS (pc := 23) (tgt := 35) F d_Model_byteAt_23 (by decide) (fun h23 => ?_) (fun h23 => ?_)
      · refine gw_aload_n (pc := 35) F 0 d_Model_byteAt_35 rfl rfl ?_
        refine rg_Model_shapes (pc := 36) F tw_408 d_Model_byteAt_36 ?_
        refine gw_iload_n (pc := 39) F 2 d_Model_byteAt_39 rfl rfl ?_
        refine rl_MShp (pc := 40) F (p14 h17) d_Model_byteAt_40 ?_
        exact gw_iret (pc := 41) F d_Model_byteAt_41
      · refine gw_aload_n (pc := 26) F 0 d_Model_byteAt_26 rfl rfl ?_
        refine rg_Model_program (pc := 27) F tw_407 d_Model_byteAt_27 ?_
        refine gw_iload_n (pc := 30) F 2 d_Model_byteAt_30 rfl rfl ?_
        refine rl_MProg (pc := 31) F (p14 h17) d_Model_byteAt_31 ?_
        refine gw_goto (pc := 32) (tgt := 41) F d_Model_byteAt_32 (by decide) ?_
        exact gw_iret (pc := 41) F d_Model_byteAt_41
    · refine gw_iconst (pc := 20) (v := (-1 : Int32)) F d_Model_byteAt_20 (by decide) ?_
      exact gw_iret (pc := 21) F d_Model_byteAt_21
set_option maxHeartbeats 4000000 in
set_option maxRecDepth 100000 in
theorem po_at_Model_byteAt   (S : gw_S) (a1 : Int32) (a2 : Int32) (hf_at : vp_in (S 0 18) 1024) : vp_in ((f_Model_byteAt S a1 a2).2 0 18) 1024 := by
  unfold f_Model_byteAt
  refine po_b (Φ := fun p : Int32 × gw_S => vp_in (p.2 0 18) 1024) (P := fun r U => vp_in (U 0 18) 1024) (po_at_Model_in S a1 (0 : Int32) (1 : Int32) hf_at) (fun r3 S3 p3 => ?_)
  refine po_if (Φ := fun p : Int32 × gw_S => vp_in (p.2 0 18) 1024) (fun h6 => ?_) (fun h6 => ?_)
  · exact p3
  · refine po_b (Φ := fun p : Int32 × gw_S => vp_in (p.2 0 18) 1024) (P := fun r U => vp_in (U 0 18) 1024 ∧ (¬ r = 0 → vp_in a2 1024)) ⟨(po_at_Model_in S3 a2 (0 : Int32) (1023 : Int32) p3), (rb_in1024 S3 a2)⟩ (fun r14 S14 p14 => ?_)
    refine po_if (Φ := fun p : Int32 × gw_S => vp_in (p.2 0 18) 1024) (fun h17 => ?_) (fun h17 => ?_)
    · exact p14.1
    · refine po_if (Φ := fun p : Int32 × gw_S => vp_in (p.2 0 18) 1024) (fun h23 => ?_) (fun h23 => ?_)
      · exact p14.1
      · exact p14.1
set_option maxHeartbeats 4000000 in
set_option maxRecDepth 100000 in
theorem po_ok_Model_byteAt   (S : gw_S) (a1 : Int32) (a2 : Int32) (hf_ok : rOK S) : rOK (f_Model_byteAt S a1 a2).2 := by
  unfold f_Model_byteAt
  refine po_b (Φ := fun p : Int32 × gw_S => rOK p.2) (P := fun r U => rOK U) (po_ok_Model_in S a1 (0 : Int32) (1 : Int32) hf_ok) (fun r3 S3 p3 => ?_)
  refine po_if (Φ := fun p : Int32 × gw_S => rOK p.2) (fun h6 => ?_) (fun h6 => ?_)
  · exact p3
  · refine po_b (Φ := fun p : Int32 × gw_S => rOK p.2) (P := fun r U => rOK U ∧ (¬ r = 0 → vp_in a2 1024)) ⟨(po_ok_Model_in S3 a2 (0 : Int32) (1023 : Int32) p3), (rb_in1024 S3 a2)⟩ (fun r14 S14 p14 => ?_)
    refine po_if (Φ := fun p : Int32 × gw_S => rOK p.2) (fun h17 => ?_) (fun h17 => ?_)
    · exact p14.1
    · refine po_if (Φ := fun p : Int32 × gw_S => rOK p.2) (fun h23 => ?_) (fun h23 => ?_)
      · exact p14.1
      · exact p14.1
noncomputable def f_Model_set   (S : gw_S) (a1 : Int32) (a2 : Int32) : Int32 × gw_S := (gw_b (f_Model_in S a1 (0 : Int32) (31 : Int32)) fun r4 S4 => if r4 = 0 then (((0 : Int32), S4)) else (gw_b (f_Model_wrapped S4 a2) fun r18 S18 => gw_n (gw_u S18 3 (a1 : Int32).toNatClampNeg r18) fun S21 => ((1 : Int32), S21)))
set_option maxHeartbeats 4000000 in
set_option maxRecDepth 100000 in
theorem c_Model_set (hJ : gw_J 20 ad)   (S : gw_S) (a1 : Int32) (a2 : Int32) : gw_M l y_Model_set prog_8_method_7_code 3 (some .boolean) gTs (gw_rm 1) D gCl (gTys cI cB cC cZ) 20 ad (rE ad cI cB cZ) gw_rI [.ref (ad 0), .int a1, .int a2] S (f_Model_set S a1 a2) := by
  refine gw_start gTs_ok (plainFor_of_name (by decide)) hJ (Nat.le_of_ble_eq_true rfl) (fun X A F => ?_)
  refine gw_lve (lv' := [(0, .ref (ad 0)), (1, .int a1), (2, .int a2)]) rfl ?_
  unfold f_Model_set
  refine gw_iload_n (pc := 0) F 1 d_Model_set_0 rfl rfl ?_
  refine gw_iconst (pc := 1) (v := (0 : Int32)) F d_Model_set_1 (by decide) ?_
  refine gw_bipush (pc := 2) (v := (31 : Int32)) F d_Model_set_2 (by decide) ?_
  refine gw_cS (pc := 4) (As := [.int a1, .int (0 : Int32), .int (31 : Int32)]) (rest := []) F (c_Model_in (gw_FJ F) S a1 (0 : Int32) (31 : Int32)) cw_Model_in cv_Model_in tw_512 rfl (by decide) (by decide) rfl rfl (Nat.le_of_ble_eq_true rfl) d_Model_set_4 (gw_bI (P := fun r U => (¬ r = 0 → vp_in a1 32)) (rb_in32 S a1) (fun r4 S4 p4 => ?_))
  refine gw_if_neS (pc := 7) (tgt := 12) F d_Model_set_7 (by decide) (fun h7 => ?_) (fun h7 => ?_)
  · refine gw_aload_n (pc := 12) F 0 d_Model_set_12 rfl rfl ?_
    refine rg_Model_variable (pc := 13) F tw_409 d_Model_set_13 ?_
    refine gw_iload_n (pc := 16) F 1 d_Model_set_16 rfl rfl ?_
    refine gw_iload_n (pc := 17) F 2 d_Model_set_17 rfl rfl ?_
    refine gw_cS (pc := 18) (As := [.int a2]) (rest := [.int a1, .ref (ad 3)]) F (c_Model_wrapped (gw_FJ F) S4 a2) cw_Model_wrapped cv_Model_wrapped tw_523 rfl (by decide) (by decide) rfl rfl (Nat.le_of_ble_eq_true rfl) d_Model_set_18 (gw_bI (P := fun r U => True) trivial (fun r18 S18 p18 => ?_))
    refine rs_MVar (pc := 21) F (p4 h7) d_Model_set_21 ?_
    refine gw_nS (fun S21 E21 => ?_)
    refine gw_iconst (pc := 22) (v := (1 : Int32)) F d_Model_set_22 (by decide) ?_
    exact gw_zret (pc := 23) F d_Model_set_23 rfl
  · refine gw_iconst (pc := 10) (v := (0 : Int32)) F d_Model_set_10 (by decide) ?_
    exact gw_zret (pc := 11) F d_Model_set_11 rfl
set_option maxHeartbeats 4000000 in
set_option maxRecDepth 100000 in
theorem po_at_Model_set   (S : gw_S) (a1 : Int32) (a2 : Int32) (hf_at : vp_in (S 0 18) 1024) : vp_in ((f_Model_set S a1 a2).2 0 18) 1024 := by
  unfold f_Model_set
  refine po_b (Φ := fun p : Int32 × gw_S => vp_in (p.2 0 18) 1024) (P := fun r U => vp_in (U 0 18) 1024 ∧ (¬ r = 0 → vp_in a1 32)) ⟨(po_at_Model_in S a1 (0 : Int32) (31 : Int32) hf_at), (rb_in32 S a1)⟩ (fun r4 S4 p4 => ?_)
  refine po_if (Φ := fun p : Int32 × gw_S => vp_in (p.2 0 18) 1024) (fun h7 => ?_) (fun h7 => ?_)
  · exact p4.1
  · refine po_b (Φ := fun p : Int32 × gw_S => vp_in (p.2 0 18) 1024) (P := fun r U => vp_in (U 0 18) 1024) (po_at_Model_wrapped S4 a2 p4.1) (fun r18 S18 p18 => ?_)
    refine po_n (Φ := fun p : Int32 × gw_S => vp_in (p.2 0 18) 1024) (fun S21 E21 => ?_)
    exact (rOK_keep (P := fun z => vp_in z 1024) E21 p18 (by omega))
set_option maxHeartbeats 4000000 in
set_option maxRecDepth 100000 in
theorem po_ok_Model_set   (S : gw_S) (a1 : Int32) (a2 : Int32) (hf_ok : rOK S) : rOK (f_Model_set S a1 a2).2 := by
  unfold f_Model_set
  refine po_b (Φ := fun p : Int32 × gw_S => rOK p.2) (P := fun r U => rOK U ∧ (¬ r = 0 → vp_in a1 32)) ⟨(po_ok_Model_in S a1 (0 : Int32) (31 : Int32) hf_ok), (rb_in32 S a1)⟩ (fun r4 S4 p4 => ?_)
  refine po_if (Φ := fun p : Int32 × gw_S => rOK p.2) (fun h7 => ?_) (fun h7 => ?_)
  · exact p4.1
  · refine po_b (Φ := fun p : Int32 × gw_S => rOK p.2) (P := fun r U => rOK U) (po_ok_Model_wrapped S4 a2 p4.1) (fun r18 S18 p18 => ?_)
    refine po_n (Φ := fun p : Int32 × gw_S => rOK p.2) (fun S21 E21 => ?_)
    exact (rOK_c E21 p18 (by omega))
noncomputable def f_Model_get   (S : gw_S) (a1 : Int32) : Int32 × gw_S := (gw_b (f_Model_in S a1 (0 : Int32) (31 : Int32)) fun r4 S4 => if r4 = 0 then (((0 : Int32), S4)) else (((S4 3 (a1 : Int32).toNatClampNeg), S4)))
set_option maxHeartbeats 4000000 in
set_option maxRecDepth 100000 in
theorem c_Model_get (hJ : gw_J 20 ad)   (S : gw_S) (a1 : Int32) : gw_M l y_Model_get prog_8_method_8_code 2 (some .int) gTs (gw_rm 1) D gCl (gTys cI cB cC cZ) 20 ad (rE ad cI cB cZ) gw_rI [.ref (ad 0), .int a1] S (f_Model_get S a1) := by
  refine gw_start gTs_ok (plainFor_of_name (by decide)) hJ (Nat.le_of_ble_eq_true rfl) (fun X A F => ?_)
  refine gw_lve (lv' := [(0, .ref (ad 0)), (1, .int a1)]) rfl ?_
  unfold f_Model_get
  refine gw_iload_n (pc := 0) F 1 d_Model_get_0 rfl rfl ?_
  refine gw_iconst (pc := 1) (v := (0 : Int32)) F d_Model_get_1 (by decide) ?_
  refine gw_bipush (pc := 2) (v := (31 : Int32)) F d_Model_get_2 (by decide) ?_
  refine gw_cS (pc := 4) (As := [.int a1, .int (0 : Int32), .int (31 : Int32)]) (rest := []) F (c_Model_in (gw_FJ F) S a1 (0 : Int32) (31 : Int32)) cw_Model_in cv_Model_in tw_512 rfl (by decide) (by decide) rfl rfl (Nat.le_of_ble_eq_true rfl) d_Model_get_4 (gw_bI (P := fun r U => (¬ r = 0 → vp_in a1 32)) (rb_in32 S a1) (fun r4 S4 p4 => ?_))
  refine gw_if_eqS (pc := 7) (tgt := 19) F d_Model_get_7 (by decide) (fun h7 => ?_) (fun h7 => ?_)
  · refine gw_iconst (pc := 19) (v := (0 : Int32)) F d_Model_get_19 (by decide) ?_
    exact gw_iret (pc := 20) F d_Model_get_20
  · refine gw_aload_n (pc := 10) F 0 d_Model_get_10 rfl rfl ?_
    refine rg_Model_variable (pc := 11) F tw_409 d_Model_get_11 ?_
    refine gw_iload_n (pc := 14) F 1 d_Model_get_14 rfl rfl ?_
    refine rl_MVar (pc := 15) F (p4 h7) d_Model_get_15 ?_
    refine gw_goto (pc := 16) (tgt := 20) F d_Model_get_16 (by decide) ?_
    exact gw_iret (pc := 20) F d_Model_get_20
set_option maxHeartbeats 4000000 in
set_option maxRecDepth 100000 in
theorem po_at_Model_get   (S : gw_S) (a1 : Int32) (hf_at : vp_in (S 0 18) 1024) : vp_in ((f_Model_get S a1).2 0 18) 1024 := by
  unfold f_Model_get
  refine po_b (Φ := fun p : Int32 × gw_S => vp_in (p.2 0 18) 1024) (P := fun r U => vp_in (U 0 18) 1024 ∧ (¬ r = 0 → vp_in a1 32)) ⟨(po_at_Model_in S a1 (0 : Int32) (31 : Int32) hf_at), (rb_in32 S a1)⟩ (fun r4 S4 p4 => ?_)
  refine po_if (Φ := fun p : Int32 × gw_S => vp_in (p.2 0 18) 1024) (fun h7 => ?_) (fun h7 => ?_)
  · exact p4.1
  · exact p4.1
set_option maxHeartbeats 4000000 in
set_option maxRecDepth 100000 in
theorem po_ok_Model_get   (S : gw_S) (a1 : Int32) (hf_ok : rOK S) : rOK (f_Model_get S a1).2 := by
  unfold f_Model_get
  refine po_b (Φ := fun p : Int32 × gw_S => rOK p.2) (P := fun r U => rOK U ∧ (¬ r = 0 → vp_in a1 32)) ⟨(po_ok_Model_in S a1 (0 : Int32) (31 : Int32) hf_ok), (rb_in32 S a1)⟩ (fun r4 S4 p4 => ?_)
  refine po_if (Φ := fun p : Int32 × gw_S => rOK p.2) (fun h7 => ?_) (fun h7 => ?_)
  · exact p4.1
  · exact p4.1
noncomputable def f_Model_ask   (S : gw_S) (a1 : Int32) (a2 : Int32) : Int32 × gw_S := (gw_b (f_Model_in S a1 (0 : Int32) (15 : Int32)) fun r4 S4 => if r4 = 0 then (((0 : Int32), S4)) else (gw_b (f_Model_in S4 a2 (-1 : Int32) (1023 : Int32)) fun r15 S15 => if r15 = 0 then (((0 : Int32), S15)) else (gw_n (gw_u S15 8 (a1 : Int32).toNatClampNeg a2) fun S29 => ((1 : Int32), S29))))
set_option maxHeartbeats 4000000 in
set_option maxRecDepth 100000 in
theorem c_Model_ask (hJ : gw_J 20 ad)   (S : gw_S) (a1 : Int32) (a2 : Int32) : gw_M l y_Model_ask prog_8_method_9_code 3 (some .boolean) gTs (gw_rm 1) D gCl (gTys cI cB cC cZ) 20 ad (rE ad cI cB cZ) gw_rI [.ref (ad 0), .int a1, .int a2] S (f_Model_ask S a1 a2) := by
  refine gw_start gTs_ok (plainFor_of_name (by decide)) hJ (Nat.le_of_ble_eq_true rfl) (fun X A F => ?_)
  refine gw_lve (lv' := [(0, .ref (ad 0)), (1, .int a1), (2, .int a2)]) rfl ?_
  unfold f_Model_ask
  refine gw_iload_n (pc := 0) F 1 d_Model_ask_0 rfl rfl ?_
  refine gw_iconst (pc := 1) (v := (0 : Int32)) F d_Model_ask_1 (by decide) ?_
  refine gw_bipush (pc := 2) (v := (15 : Int32)) F d_Model_ask_2 (by decide) ?_
  refine gw_cS (pc := 4) (As := [.int a1, .int (0 : Int32), .int (15 : Int32)]) (rest := []) F (c_Model_in (gw_FJ F) S a1 (0 : Int32) (15 : Int32)) cw_Model_in cv_Model_in tw_512 rfl (by decide) (by decide) rfl rfl (Nat.le_of_ble_eq_true rfl) d_Model_ask_4 (gw_bI (P := fun r U => (¬ r = 0 → vp_in a1 16)) (rb_in16 S a1) (fun r4 S4 p4 => ?_))
  refine gw_if_eqS (pc := 7) (tgt := 21) F d_Model_ask_7 (by decide) (fun h7 => ?_) (fun h7 => ?_)
  · refine gw_iconst (pc := 21) (v := (0 : Int32)) F d_Model_ask_21 (by decide) ?_
    exact gw_zret (pc := 22) F d_Model_ask_22 rfl
  · refine gw_iload_n (pc := 10) F 2 d_Model_ask_10 rfl rfl ?_
    refine gw_iconst (pc := 11) (v := (-1 : Int32)) F d_Model_ask_11 (by decide) ?_
    refine gw_sipush (pc := 12) (v := (1023 : Int32)) F d_Model_ask_12 (by decide) ?_
    refine gw_cS (pc := 15) (As := [.int a2, .int (-1 : Int32), .int (1023 : Int32)]) (rest := []) F (c_Model_in (gw_FJ F) S4 a2 (-1 : Int32) (1023 : Int32)) cw_Model_in cv_Model_in tw_512 rfl (by decide) (by decide) rfl rfl (Nat.le_of_ble_eq_true rfl) d_Model_ask_15 (gw_bI (P := fun r U => (¬ r = 0 → rAd a2)) (rb_inA S4 a2) (fun r15 S15 p15 => ?_))
    refine gw_if_neS (pc := 18) (tgt := 23) F d_Model_ask_18 (by decide) (fun h18 => ?_) (fun h18 => ?_)
    · refine gw_aload_n (pc := 23) F 0 d_Model_ask_23 rfl rfl ?_
      refine rg_Model_asked (pc := 24) F tw_416 d_Model_ask_24 ?_
      refine gw_iload_n (pc := 27) F 1 d_Model_ask_27 rfl rfl ?_
      refine gw_iload_n (pc := 28) F 2 d_Model_ask_28 rfl rfl ?_
      refine rs_MAsk (pc := 29) F (p4 h7) d_Model_ask_29 ?_
      refine gw_nS (fun S29 E29 => ?_)
      refine gw_iconst (pc := 30) (v := (1 : Int32)) F d_Model_ask_30 (by decide) ?_
      exact gw_zret (pc := 31) F d_Model_ask_31 rfl
    · refine gw_iconst (pc := 21) (v := (0 : Int32)) F d_Model_ask_21 (by decide) ?_
      exact gw_zret (pc := 22) F d_Model_ask_22 rfl
set_option maxHeartbeats 4000000 in
set_option maxRecDepth 100000 in
theorem po_at_Model_ask   (S : gw_S) (a1 : Int32) (a2 : Int32) (hf_at : vp_in (S 0 18) 1024) : vp_in ((f_Model_ask S a1 a2).2 0 18) 1024 := by
  unfold f_Model_ask
  refine po_b (Φ := fun p : Int32 × gw_S => vp_in (p.2 0 18) 1024) (P := fun r U => vp_in (U 0 18) 1024 ∧ (¬ r = 0 → vp_in a1 16)) ⟨(po_at_Model_in S a1 (0 : Int32) (15 : Int32) hf_at), (rb_in16 S a1)⟩ (fun r4 S4 p4 => ?_)
  refine po_if (Φ := fun p : Int32 × gw_S => vp_in (p.2 0 18) 1024) (fun h7 => ?_) (fun h7 => ?_)
  · exact p4.1
  · refine po_b (Φ := fun p : Int32 × gw_S => vp_in (p.2 0 18) 1024) (P := fun r U => vp_in (U 0 18) 1024 ∧ (¬ r = 0 → rAd a2)) ⟨(po_at_Model_in S4 a2 (-1 : Int32) (1023 : Int32) p4.1), (rb_inA S4 a2)⟩ (fun r15 S15 p15 => ?_)
    refine po_if (Φ := fun p : Int32 × gw_S => vp_in (p.2 0 18) 1024) (fun h18 => ?_) (fun h18 => ?_)
    · exact p15.1
    · refine po_n (Φ := fun p : Int32 × gw_S => vp_in (p.2 0 18) 1024) (fun S29 E29 => ?_)
      exact (rOK_keep (P := fun z => vp_in z 1024) E29 p15.1 (by omega))
set_option maxHeartbeats 4000000 in
set_option maxRecDepth 100000 in
theorem po_ok_Model_ask   (S : gw_S) (a1 : Int32) (a2 : Int32) (hf_ok : rOK S) : rOK (f_Model_ask S a1 a2).2 := by
  unfold f_Model_ask
  refine po_b (Φ := fun p : Int32 × gw_S => rOK p.2) (P := fun r U => rOK U ∧ (¬ r = 0 → vp_in a1 16)) ⟨(po_ok_Model_in S a1 (0 : Int32) (15 : Int32) hf_ok), (rb_in16 S a1)⟩ (fun r4 S4 p4 => ?_)
  refine po_if (Φ := fun p : Int32 × gw_S => rOK p.2) (fun h7 => ?_) (fun h7 => ?_)
  · exact p4.1
  · refine po_b (Φ := fun p : Int32 × gw_S => rOK p.2) (P := fun r U => rOK U ∧ (¬ r = 0 → rAd a2)) ⟨(po_ok_Model_in S4 a2 (-1 : Int32) (1023 : Int32) p4.1), (rb_inA S4 a2)⟩ (fun r15 S15 p15 => ?_)
    refine po_if (Φ := fun p : Int32 × gw_S => rOK p.2) (fun h18 => ?_) (fun h18 => ?_)
    · exact p15.1
    · refine po_n (Φ := fun p : Int32 × gw_S => rOK p.2) (fun S29 E29 => ?_)
      exact (rOK_as E29 p15.1 (rAs_ad (p15.2 h18)))
end
