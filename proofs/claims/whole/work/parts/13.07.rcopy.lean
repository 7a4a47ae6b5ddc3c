section
variable {l : Launch} {D : va_G} {cI cB cC cZ : ClassId} {ad : Nat → Nat}
noncomputable def fl_Model_copy_12   (y1 : Int32) (y2 : Int32) (n : Nat) : gw_S → Int32 → Unit × gw_S := gw_L1 (fun self S x3 => (if (2560 : Int32) ≤ x3 then (((), S)) else (gw_n (gw_u S 4 ((((2560 : Int32) * y1) + x3) : Int32).toNatClampNeg (vp_nar .byte (S 4 ((((2560 : Int32) * y2) + x3) : Int32).toNatClampNeg))) fun S42 => (self S42 (x3 + (1 : Int32)))))) (fun S _ => ((), S)) n
set_option maxHeartbeats 4000000 in
set_option maxRecDepth 100000 in
theorem l_Model_copy_12 {X : gx_M} {A : Nat → Prop}  (F : gw_F X l prog_8_method_26_code 4 none "StageMachineModel" gTs (gw_rm 2) D gCl (gTys cI cB cC cZ) 20 ad A) (y1 : Int32) (y2 : Int32) (hl1 : vp_in y1 4) (hl2 : vp_in y2 4) : ∀ (n : Nat) (S : gw_S) (x3 : Int32), 0 < n → ((2560 : Int32) : Int32).toInt - x3.toInt < (n : Int) → 0 ≤ x3.toInt → vp_in (S 0 18) 1024 → rOK S → gw_V X (gw_P D gCl 20 ad (rE ad cI cB cZ)) A 4 gw_rV S 12 [(0, .ref (ad 0)), (1, .int y1), (2, .int y2), (3, .int x3)] [] (fl_Model_copy_12 y1 y2 n S x3) := by
  intro n
  induction n with
  | zero => intro S x3 hn hf h0 hf_at hf_ok; exact absurd hn (Nat.lt_irrefl 0)
  | succ n ih =>
    intro S x3 hn hf h0 hf_at hf_ok
    refine gw_iload_n (pc := 12) F 3 d_Model_copy_12 rfl rfl ?_
    refine gw_sipush (pc := 13) (v := (2560 : Int32)) F d_Model_copy_13 (by decide) ?_
    refine gw_icmp_geS (pc := 16) (tgt := 49) F d_Model_copy_16 (by decide) (fun h16 => ?_) (fun h16 => ?_)
    · exact gw_vret (pc := 49) F d_Model_copy_49
    · refine gw_aload_n (pc := 19) F 0 d_Model_copy_19 rfl rfl ?_
      refine rg_Model_pixels (pc := 20) F tw_410 d_Model_copy_20 ?_
      refine gw_sipush (pc := 23) (v := (2560 : Int32)) F d_Model_copy_23 (by decide) ?_
      refine gw_iload_n (pc := 26) F 1 d_Model_copy_26 rfl rfl ?_
      refine gw_imul (pc := 27) F d_Model_copy_27 ?_
      refine gw_iload_n (pc := 28) F 3 d_Model_copy_28 rfl rfl ?_
      refine gw_iadd (pc := 29) F d_Model_copy_29 ?_
      refine gw_aload_n (pc := 30) F 0 d_Model_copy_30 rfl rfl ?_
      refine rg_Model_pixels (pc := 31) F tw_410 d_Model_copy_31 ?_
      refine gw_sipush (pc := 34) (v := (2560 : Int32)) F d_Model_copy_34 (by decide) ?_
      refine gw_iload_n (pc := 37) F 2 d_Model_copy_37 rfl rfl ?_
      refine gw_imul (pc := 38) F d_Model_copy_38 ?_
      refine gw_iload_n (pc := 39) F 3 d_Model_copy_39 rfl rfl ?_
      refine gw_iadd (pc := 40) F d_Model_copy_40 ?_
      refine rl_MPix (pc := 41) F (pg_f hl2 h16 h0) d_Model_copy_41 ?_
      refine rs_MPix (pc := 42) F (pg_f hl1 h16 h0) d_Model_copy_42 ?_
      refine gw_nS (fun S42 E42 => ?_)
      refine gw_iinc (pc := 43) (v := (x3 + (1 : Int32))) (lv' := [(3, .int (x3 + (1 : Int32))), (0, .ref (ad 0)), (1, .int y1), (2, .int y2)]) F 3 d_Model_copy_43 rfl (congrArg (HAdd.hAdd x3) (by decide)) (by decide) rfl ?_
      refine gw_goto (pc := 46) (tgt := 12) F d_Model_copy_46 (by decide) ?_
      refine gw_lvs (lv' := [(0, .ref (ad 0)), (1, .int y1), (2, .int y2), (3, .int (x3 + (1 : Int32)))]) [1, 2, 3, 0] rfl ?_
      exact ih S42 (x3 + (1 : Int32)) (gw_stp h16 hf).1 (gw_stp h16 hf).2.1 (gw_stp0 h16 h0) (rOK_keep (P := fun z => vp_in z 1024) E42 hf_at (by omega)) (rOK_c E42 hf_ok (by omega))
noncomputable def f_Model_copy   (S : gw_S)  : Unit × gw_S := (gw_b (f_Model_page S) fun r1 S1 => gw_b (f_Model_page S1) fun r6 S6 => (fl_Model_copy_12 r1 r6 (gw_fu (((2560 : Int32) : Int32).toInt - ((0 : Int32) : Int32).toInt)) S6 (0 : Int32)))
set_option maxHeartbeats 4000000 in
set_option maxRecDepth 100000 in
theorem c_Model_copy (hJ : gw_J 20 ad)   (S : gw_S)  (hf_at : vp_in (S 0 18) 1024) (hf_ok : rOK S) : gw_M l y_Model_copy prog_8_method_26_code 4 none gTs (gw_rm 2) D gCl (gTys cI cB cC cZ) 20 ad (rE ad cI cB cZ) gw_rV [.ref (ad 0)] S (f_Model_copy S) := by
  refine gw_start gTs_ok (plainFor_of_name (by decide)) hJ (Nat.le_of_ble_eq_true rfl) (fun X A F => ?_)
  refine gw_lve (lv' := [(0, .ref (ad 0))]) rfl ?_
  unfold f_Model_copy
  refine gw_aload_n (pc := 0) F 0 d_Model_copy_0 rfl rfl ?_
  refine gw_cV (pc := 1) (As := []) (rest := []) F (c_Model_page (gw_FJ F) S hf_at hf_ok) cw_Model_page cv_Model_page tw_601 rfl (by decide) (by decide) (by decide) rE_Model rfl rfl rfl rfl (Nat.le_of_ble_eq_true rfl) d_Model_copy_1 (gw_bI (P := fun r U => vp_in (U 0 18) 1024 ∧ rOK U ∧ vp_in r 4) ⟨(po_at_Model_page S hf_at), (po_ok_Model_page S hf_ok hf_at), (rb_page S hf_ok)⟩ (fun r1 S1 p1 => ?_))
  refine gw_istore_n (pc := 4) (lv' := [(1, .int r1), (0, .ref (ad 0))]) F d_Model_copy_4 rfl (by decide) rfl ?_
  refine gw_aload_n (pc := 5) F 1 d_Model_copy_5 rfl rfl ?_
  refine gw_cV (pc := 6) (As := []) (rest := []) F (c_Model_page (gw_FJ F) S1 p1.1 p1.2.1) cw_Model_page cv_Model_page tw_601 rfl (by decide) (by decide) (by decide) rE_Model rfl rfl rfl rfl (Nat.le_of_ble_eq_true rfl) d_Model_copy_6 (gw_bI (P := fun r U => vp_in (U 0 18) 1024 ∧ rOK U ∧ vp_in r 4) ⟨(po_at_Model_page S1 p1.1), (po_ok_Model_page S1 p1.2.1 p1.1), (rb_page S1 p1.2.1)⟩ (fun r6 S6 p6 => ?_))
  refine gw_istore_n (pc := 9) (lv' := [(2, .int r6), (1, .int r1), (0, .ref (ad 0))]) F d_Model_copy_9 rfl (by decide) rfl ?_
  refine gw_iconst (pc := 10) (v := (0 : Int32)) F d_Model_copy_10 (by decide) ?_
  refine gw_istore_n (pc := 11) (lv' := [(3, .int (0 : Int32)), (2, .int r6), (1, .int r1), (0, .ref (ad 0))]) F d_Model_copy_11 rfl (by decide) rfl ?_
  refine gw_lvs (lv' := [(0, .ref (ad 0)), (1, .int r1), (2, .int r6), (3, .int (0 : Int32))]) [3, 2, 1, 0] rfl ?_
  exact l_Model_copy_12  F r1 r6 p1.2.2 p6.2.2 (gw_fu (((2560 : Int32) : Int32).toInt - ((0 : Int32) : Int32).toInt)) S6 (0 : Int32) (gw_fu_pos _) (gw_fu_lt _) (by decide) p6.1 p6.2.1
set_option maxHeartbeats 4000000 in
set_option maxRecDepth 100000 in
theorem pl_at_Model_copy_12  (y1 : Int32) (y2 : Int32) (hl1 : vp_in y1 4) (hl2 : vp_in y2 4) : ∀ (n : Nat) (S : gw_S) (x3 : Int32), 0 < n → ((2560 : Int32) : Int32).toInt - x3.toInt < (n : Int) → 0 ≤ x3.toInt → vp_in (S 0 18) 1024 → rOK S → vp_in ((fl_Model_copy_12 y1 y2 n S x3).2 0 18) 1024 := by
  intro n
  induction n with
  | zero => intro S x3 hn hf h0 hf_at hf_ok; exact absurd hn (Nat.lt_irrefl 0)
  | succ n ih =>
    intro S x3 hn hf h0 hf_at hf_ok
    refine po_if (Φ := fun p : Unit × gw_S => vp_in (p.2 0 18) 1024) (fun h16 => ?_) (fun h16 => ?_)
    · exact hf_at
    · refine po_n (Φ := fun p : Unit × gw_S => vp_in (p.2 0 18) 1024) (fun S42 E42 => ?_)
      exact ih S42 (x3 + (1 : Int32)) (gw_stp h16 hf).1 (gw_stp h16 hf).2.1 (gw_stp0 h16 h0) (rOK_keep (P := fun z => vp_in z 1024) E42 hf_at (by omega)) (rOK_c E42 hf_ok (by omega))
set_option maxHeartbeats 4000000 in
set_option maxRecDepth 100000 in
theorem po_at_Model_copy   (S : gw_S)  (hf_at : vp_in (S 0 18) 1024) (hf_ok : rOK S) : vp_in ((f_Model_copy S).2 0 18) 1024 := by
  unfold f_Model_copy
  refine po_b (Φ := fun p : Unit × gw_S => vp_in (p.2 0 18) 1024) (P := fun r U => vp_in (U 0 18) 1024 ∧ rOK U ∧ vp_in r 4) ⟨(po_at_Model_page S hf_at), (po_ok_Model_page S hf_ok hf_at), (rb_page S hf_ok)⟩ (fun r1 S1 p1 => ?_)
  refine po_b (Φ := fun p : Unit × gw_S => vp_in (p.2 0 18) 1024) (P := fun r U => vp_in (U 0 18) 1024 ∧ rOK U ∧ vp_in r 4) ⟨(po_at_Model_page S1 p1.1), (po_ok_Model_page S1 p1.2.1 p1.1), (rb_page S1 p1.2.1)⟩ (fun r6 S6 p6 => ?_)
  exact pl_at_Model_copy_12 r1 r6 p1.2.2 p6.2.2 (gw_fu (((2560 : Int32) : Int32).toInt - ((0 : Int32) : Int32).toInt)) S6 (0 : Int32) (gw_fu_pos _) (gw_fu_lt _) (by decide) p6.1 p6.2.1
set_option maxHeartbeats 4000000 in
set_option maxRecDepth 100000 in
theorem pl_ok_Model_copy_12  (y1 : Int32) (y2 : Int32) (hl1 : vp_in y1 4) (hl2 : vp_in y2 4) : ∀ (n : Nat) (S : gw_S) (x3 : Int32), 0 < n → ((2560 : Int32) : Int32).toInt - x3.toInt < (n : Int) → 0 ≤ x3.toInt → vp_in (S 0 18) 1024 → rOK S → rOK (fl_Model_copy_12 y1 y2 n S x3).2 := by
  intro n
  induction n with
  | zero => intro S x3 hn hf h0 hf_at hf_ok; exact absurd hn (Nat.lt_irrefl 0)
  | succ n ih =>
    intro S x3 hn hf h0 hf_at hf_ok
    refine po_if (Φ := fun p : Unit × gw_S => rOK p.2) (fun h16 => ?_) (fun h16 => ?_)
    · exact hf_ok
    · refine po_n (Φ := fun p : Unit × gw_S => rOK p.2) (fun S42 E42 => ?_)
      exact ih S42 (x3 + (1 : Int32)) (gw_stp h16 hf).1 (gw_stp h16 hf).2.1 (gw_stp0 h16 h0) (rOK_keep (P := fun z => vp_in z 1024) E42 hf_at (by omega)) (rOK_c E42 hf_ok (by omega))
set_option maxHeartbeats 4000000 in
set_option maxRecDepth 100000 in
theorem po_ok_Model_copy   (S : gw_S)  (hf_at : vp_in (S 0 18) 1024) (hf_ok : rOK S) : rOK (f_Model_copy S).2 := by
  unfold f_Model_copy
  refine po_b (Φ := fun p : Unit × gw_S => rOK p.2) (P := fun r U => vp_in (U 0 18) 1024 ∧ rOK U ∧ vp_in r 4) ⟨(po_at_Model_page S hf_at), (po_ok_Model_page S hf_ok hf_at), (rb_page S hf_ok)⟩ (fun r1 S1 p1 => ?_)
  refine po_b (Φ := fun p : Unit × gw_S => rOK p.2) (P := fun r U => vp_in (U 0 18) 1024 ∧ rOK U ∧ vp_in r 4) ⟨(po_at_Model_page S1 p1.1), (po_ok_Model_page S1 p1.2.1 p1.1), (rb_page S1 p1.2.1)⟩ (fun r6 S6 p6 => ?_)
  exact pl_ok_Model_copy_12 r1 r6 p1.2.2 p6.2.2 (gw_fu (((2560 : Int32) : Int32).toInt - ((0 : Int32) : Int32).toInt)) S6 (0 : Int32) (gw_fu_pos _) (gw_fu_lt _) (by decide) p6.1 p6.2.1
set_option maxHeartbeats 4000000 in
set_option maxRecDepth 100000 in
theorem pl_nz_Model_copy_12 {ν : Int32}  (y1 : Int32) (y2 : Int32) (hl1 : vp_in y1 4) (hl2 : vp_in y2 4) : ∀ (n : Nat) (S : gw_S) (x3 : Int32), 0 < n → ((2560 : Int32) : Int32).toInt - x3.toInt < (n : Int) → 0 ≤ x3.toInt → vp_in (S 0 18) 1024 → rOK S → S 0 14 = ν → (fl_Model_copy_12 y1 y2 n S x3).2 0 14 = ν := by
  intro n
  induction n with
  | zero => intro S x3 hn hf h0 hf_at hf_ok hf_nz; exact absurd hn (Nat.lt_irrefl 0)
  | succ n ih =>
    intro S x3 hn hf h0 hf_at hf_ok hf_nz
    refine po_if (Φ := fun p : Unit × gw_S => p.2 0 14 = ν) (fun h16 => ?_) (fun h16 => ?_)
    · exact hf_nz
    · refine po_n (Φ := fun p : Unit × gw_S => p.2 0 14 = ν) (fun S42 E42 => ?_)
      exact ih S42 (x3 + (1 : Int32)) (gw_stp h16 hf).1 (gw_stp h16 hf).2.1 (gw_stp0 h16 h0) (rOK_keep (P := fun z => vp_in z 1024) E42 hf_at (by omega)) (rOK_c E42 hf_ok (by omega)) (rOK_keep (P := fun z => z = ν) E42 hf_nz (by omega))
set_option maxHeartbeats 4000000 in
set_option maxRecDepth 100000 in
theorem po_nz_Model_copy {ν : Int32}   (S : gw_S)  (hf_nz : S 0 14 = ν) (hf_at : vp_in (S 0 18) 1024) (hf_ok : rOK S) : (f_Model_copy S).2 0 14 = ν := by
  unfold f_Model_copy
  refine po_b (Φ := fun p : Unit × gw_S => p.2 0 14 = ν) (P := fun r U => vp_in (U 0 18) 1024 ∧ rOK U ∧ U 0 14 = ν ∧ vp_in r 4) ⟨(po_at_Model_page S hf_at), (po_ok_Model_page S hf_ok hf_at), (po_nz_Model_page S hf_nz hf_at hf_ok), (rb_page S hf_ok)⟩ (fun r1 S1 p1 => ?_)
  refine po_b (Φ := fun p : Unit × gw_S => p.2 0 14 = ν) (P := fun r U => vp_in (U 0 18) 1024 ∧ rOK U ∧ U 0 14 = ν ∧ vp_in r 4) ⟨(po_at_Model_page S1 p1.1), (po_ok_Model_page S1 p1.2.1 p1.1), (po_nz_Model_page S1 p1.2.2.1 p1.1 p1.2.1), (rb_page S1 p1.2.1)⟩ (fun r6 S6 p6 => ?_)
  exact pl_nz_Model_copy_12 r1 r6 p1.2.2.2 p6.2.2.2 (gw_fu (((2560 : Int32) : Int32).toInt - ((0 : Int32) : Int32).toInt)) S6 (0 : Int32) (gw_fu_pos _) (gw_fu_lt _) (by decide) p6.1 p6.2.1 p6.2.2.1
end
