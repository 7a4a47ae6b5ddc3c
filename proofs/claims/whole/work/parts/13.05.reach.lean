section
variable {l : Launch} {D : va_G} {cI cB cC cZ : ClassId} {ad : Nat → Nat}
noncomputable def fl_Model_each_35   (y2 : Int32) (y3 : Int32) (n : Nat) : gw_S → Int32 → Unit × gw_S := gw_L1 (fun self S x4 => (if y2 < x4 then (((), S)) else (if y3 = (2 : Int32) then (gw_n (gw_u S 8 (x4 : Int32).toNatClampNeg (-1 : Int32)) fun S53 => (self S53 (x4 + (1 : Int32)))) else (gw_n (gw_u S 9 (x4 : Int32).toNatClampNeg y3) fun S64 => (self S64 (x4 + (1 : Int32))))))) (fun S _ => ((), S)) n
set_option maxHeartbeats 4000000 in
set_option maxRecDepth 100000 in
theorem l_Model_each_35 {X : gx_M} {A : Nat → Prop}  (F : gw_F X l prog_8_method_23_code 5 none "StageMachineModel" gTs (gw_rm 1) D gCl (gTys cI cB cC cZ) 20 ad A) (y2 : Int32) (y3 : Int32) (hl2 : vp_in y2 16) : ∀ (n : Nat) (S : gw_S) (x4 : Int32), 0 < n → (y2 : Int32).toInt + 1 - x4.toInt < (n : Int) → 0 ≤ x4.toInt → vp_in (S 0 18) 1024 → gw_V X (gw_P D gCl 20 ad (rE ad cI cB cZ)) A 5 gw_rV S 35 [(0, .ref (ad 0)), (2, .int y2), (3, .int y3), (4, .int x4)] [] (fl_Model_each_35 y2 y3 n S x4) := by
  intro n
  induction n with
  | zero => intro S x4 hn hf h0 hf_at; exact absurd hn (Nat.lt_irrefl 0)
  | succ n ih =>
    intro S x4 hn hf h0 hf_at
    refine gw_iload (pc := 35) F 3 d_Model_each_35 rfl ?_
    refine gw_iload_n (pc := 37) F 1 d_Model_each_37 rfl rfl ?_
    refine gw_icmp_gtS (pc := 38) (tgt := 71) F d_Model_each_38 (by decide) (fun h38 => ?_) (fun h38 => ?_)
    · exact gw_vret (pc := 71) F d_Model_each_71
    · refine gw_iload_n (pc := 41) F 2 d_Model_each_41 rfl rfl ?_
      refine gw_iconst (pc := 42) (v := (2 : Int32)) F d_Model_each_42 (by decide) ?_
      refine gw_icmp_neS (pc := 43) (tgt := 57) F d_Model_each_43 (by decide) (fun h43 => ?_) (fun h43 => ?_)
      · refine gw_aload_n (pc := 57) F 0 d_Model_each_57 rfl rfl ?_
        refine rg_Model_askedPause (pc := 58) F tw_417 d_Model_each_58 ?_
        refine gw_iload (pc := 61) F 3 d_Model_each_61 rfl ?_
        refine gw_iload_n (pc := 63) F 2 d_Model_each_63 rfl rfl ?_
        refine rs_MAp (pc := 64) F (gw_inG hl2 h38 h0) d_Model_each_64 ?_
        refine gw_nS (fun S64 E64 => ?_)
        refine gw_iinc (pc := 65) (v := (x4 + (1 : Int32))) (lv' := [(4, .int (x4 + (1 : Int32))), (0, .ref (ad 0)), (2, .int y2), (3, .int y3)]) F 3 d_Model_each_65 rfl (congrArg (HAdd.hAdd x4) (by decide)) (by decide) rfl ?_
        refine gw_goto (pc := 68) (tgt := 35) F d_Model_each_68 (by decide) ?_
        refine gw_lvs (lv' := [(0, .ref (ad 0)), (2, .int y2), (3, .int y3), (4, .int (x4 + (1 : Int32)))]) [1, 2, 3, 0] rfl ?_
        exact ih S64 (x4 + (1 : Int32)) (gw_stpG hl2 h38 hf).1 (gw_stpG hl2 h38 hf).2.1 (gw_up1 (gw_stpG hl2 h38 hf).2.2 h0) (rOK_keep (P := fun z => vp_in z 1024) E64 hf_at (by omega))
      · refine gw_aload_n (pc := 46) F 0 d_Model_each_46 rfl rfl ?_
        refine rg_Model_asked (pc := 47) F tw_416 d_Model_each_47 ?_
        refine gw_iload (pc := 50) F 3 d_Model_each_50 rfl ?_
        refine gw_iconst (pc := 52) (v := (-1 : Int32)) F d_Model_each_52 (by decide) ?_
        refine rs_MAsk (pc := 53) F (gw_inG hl2 h38 h0) d_Model_each_53 ?_
        refine gw_nS (fun S53 E53 => ?_)
        refine gw_goto (pc := 54) (tgt := 65) F d_Model_each_54 (by decide) ?_
        refine gw_iinc (pc := 65) (v := (x4 + (1 : Int32))) (lv' := [(4, .int (x4 + (1 : Int32))), (0, .ref (ad 0)), (2, .int y2), (3, .int y3)]) F 3 d_Model_each_65 rfl (congrArg (HAdd.hAdd x4) (by decide)) (by decide) rfl ?_
        refine gw_goto (pc := 68) (tgt := 35) F d_Model_each_68 (by decide) ?_
        refine gw_lvs (lv' := [(0, .ref (ad 0)), (2, .int y2), (3, .int y3), (4, .int (x4 + (1 : Int32)))]) [1, 2, 3, 0] rfl ?_
        exact ih S53 (x4 + (1 : Int32)) (gw_stpG hl2 h38 hf).1 (gw_stpG hl2 h38 hf).2.1 (gw_up1 (gw_stpG hl2 h38 hf).2.2 h0) (rOK_keep (P := fun z => vp_in z 1024) E53 hf_at (by omega))
noncomputable def f_Model_each   (S : gw_S)  : Unit × gw_S := (gw_b (f_Model_next S) fun r1 S1 => gw_n (r1 &&& (15 : Int32)) fun v7 => gw_b (f_Model_next S1) fun r9 S9 => gw_n (r9 &&& (15 : Int32)) fun v15 => gw_b (f_Model_next S9) fun r17 S17 => if r17 ≤ (2 : Int32) then (fl_Model_each_35 v15 r17 (gw_fu ((v15 : Int32).toInt + 1 - (v7 : Int32).toInt)) S17 v7) else (gw_b (f_Model_fails S17 (4 : Int32)) fun _ S28 => ((), S28)))
set_option maxHeartbeats 4000000 in
set_option maxRecDepth 100000 in
theorem c_Model_each (hJ : gw_J 20 ad)   (S : gw_S)  (hf_at : vp_in (S 0 18) 1024) : gw_M l y_Model_each prog_8_method_23_code 5 none gTs (gw_rm 1) D gCl (gTys cI cB cC cZ) 20 ad (rE ad cI cB cZ) gw_rV [.ref (ad 0)] S (f_Model_each S) := by
  refine gw_start gTs_ok (plainFor_of_name (by decide)) hJ (Nat.le_of_ble_eq_true rfl) (fun X A F => ?_)
  refine gw_lve (lv' := [(0, .ref (ad 0))]) rfl ?_
  unfold f_Model_each
  refine gw_aload_n (pc := 0) F 0 d_Model_each_0 rfl rfl ?_
  refine gw_cV (pc := 1) (As := []) (rest := []) F (c_Model_next (gw_FJ F) S hf_at) cw_Model_next cv_Model_next tw_550 rfl (by decide) (by decide) (by decide) rE_Model rfl rfl rfl rfl (Nat.le_of_ble_eq_true rfl) d_Model_each_1 (gw_bI (P := fun r U => vp_in (U 0 18) 1024) (po_at_Model_next S hf_at) (fun r1 S1 p1 => ?_))
  refine gw_bipush (pc := 4) (v := (15 : Int32)) F d_Model_each_4 (by decide) ?_
  refine gw_iand (pc := 6) F d_Model_each_6 ?_
  refine gw_nI (fun v7 e7 => ?_)
  refine gw_istore_n (pc := 7) (lv' := [(1, .int v7), (0, .ref (ad 0))]) F d_Model_each_7 rfl (by decide) rfl ?_
  refine gw_aload_n (pc := 8) F 1 d_Model_each_8 rfl rfl ?_
  refine gw_cV (pc := 9) (As := []) (rest := []) F (c_Model_next (gw_FJ F) S1 p1) cw_Model_next cv_Model_next tw_550 rfl (by decide) (by decide) (by decide) rE_Model rfl rfl rfl rfl (Nat.le_of_ble_eq_true rfl) d_Model_each_9 (gw_bI (P := fun r U => vp_in (U 0 18) 1024) (po_at_Model_next S1 p1) (fun r9 S9 p9 => ?_))
  refine gw_bipush (pc := 12) (v := (15 : Int32)) F d_Model_each_12 (by decide) ?_
  refine gw_iand (pc := 14) F d_Model_each_14 ?_
  refine gw_nI (fun v15 e15 => ?_)
  refine gw_istore_n (pc := 15) (lv' := [(2, .int v15), (1, .int v7), (0, .ref (ad 0))]) F d_Model_each_15 rfl (by decide) rfl ?_
  refine gw_aload_n (pc := 16) F 2 d_Model_each_16 rfl rfl ?_
  refine gw_cV (pc := 17) (As := []) (rest := []) F (c_Model_next (gw_FJ F) S9 p9) cw_Model_next cv_Model_next tw_550 rfl (by decide) (by decide) (by decide) rE_Model rfl rfl rfl rfl (Nat.le_of_ble_eq_true rfl) d_Model_each_17 (gw_bI (P := fun r U => vp_in (U 0 18) 1024) (po_at_Model_next S9 p9) (fun r17 S17 p17 => ?_))
  refine gw_istore_n (pc := 20) (lv' := [(3, .int r17), (2, .int v15), (1, .int v7), (0, .ref (ad 0))]) F d_Model_each_20 rfl (by decide) rfl ?_
  refine gw_iload_n (pc := 21) F 0 d_Model_each_21 rfl rfl ?_
  refine gw_iconst (pc := 22) (v := (2 : Int32)) F d_Model_each_22 (by decide) ?_
  refine gw_icmp_leS (pc := 23) (tgt := 32) F d_Model_each_23 (by decide) (fun h23 => ?_) (fun h23 => ?_)
  · refine gw_iload_n (pc := 32) F 2 d_Model_each_32 rfl rfl ?_
    refine gw_istore (pc := 33) (lv' := [(4, .int v7), (3, .int r17), (2, .int v15), (1, .int v7), (0, .ref (ad 0))]) F d_Model_each_33 (by decide) rfl ?_
    refine gw_lvs (lv' := [(0, .ref (ad 0)), (2, .int v15), (3, .int r17), (4, .int v7)]) [4, 2, 1, 0] rfl ?_
    exact l_Model_each_35  F v15 r17 (gw_inE e15 (gw_and15 _)) (gw_fu ((v15 : Int32).toInt + 1 - (v7 : Int32).toInt)) S17 v7 (gw_fu_pos _) (gw_fu_lt _) (vp_in_iff.mp (gw_inE e7 (gw_and15 _))).1 p17
  · refine gw_aload_n (pc := 26) F 3 d_Model_each_26 rfl rfl ?_
    refine gw_iconst (pc := 27) (v := (4 : Int32)) F d_Model_each_27 (by decide) ?_
    refine gw_cV (pc := 28) (As := [.int (4 : Int32)]) (rest := []) F (c_Model_fails (gw_FJ F) S17 (4 : Int32)) cw_Model_fails cv_Model_fails tw_566 rfl (by decide) (by decide) (by decide) rE_Model rfl rfl rfl rfl (Nat.le_of_ble_eq_true rfl) d_Model_each_28 (gw_bV (P := fun _ U => vp_in (U 0 18) 1024) (po_at_Model_fails S17 (4 : Int32) p17) (fun _ S28 p28 => ?_))
    exact gw_vret (pc := 31) F d_Model_each_31
set_option maxHeartbeats 4000000 in
set_option maxRecDepth 100000 in
theorem pl_at_Model_each_35  (y2 : Int32) (y3 : Int32) (hl2 : vp_in y2 16) : ∀ (n : Nat) (S : gw_S) (x4 : Int32), 0 < n → (y2 : Int32).toInt + 1 - x4.toInt < (n : Int) → 0 ≤ x4.toInt → vp_in (S 0 18) 1024 → vp_in ((fl_Model_each_35 y2 y3 n S x4).2 0 18) 1024 := by
  intro n
  induction n with
  | zero => intro S x4 hn hf h0 hf_at; exact absurd hn (Nat.lt_irrefl 0)
  | succ n ih =>
    intro S x4 hn hf h0 hf_at
    refine po_if (Φ := fun p : Unit × gw_S => vp_in (p.2 0 18) 1024) (fun h38 => ?_) (fun h38 => ?_)
    · exact hf_at
    · refine po_if (Φ := fun p : Unit × gw_S => vp_in (p.2 0 18) 1024) (fun h43 => ?_) (fun h43 => ?_)
      · refine po_n (Φ := fun p : Unit × gw_S => vp_in (p.2 0 18) 1024) (fun S53 E53 => ?_)
        exact ih S53 (x4 + (1 : Int32)) (gw_stpG hl2 h38 hf).1 (gw_stpG hl2 h38 hf).2.1 (gw_up1 (gw_stpG hl2 h38 hf).2.2 h0) (rOK_keep (P := fun z => vp_in z 1024) E53 hf_at (by omega))
      · refine po_n (Φ := fun p : Unit × gw_S => vp_in (p.2 0 18) 1024) (fun S64 E64 => ?_)
        exact ih S64 (x4 + (1 : Int32)) (gw_stpG hl2 h38 hf).1 (gw_stpG hl2 h38 hf).2.1 (gw_up1 (gw_stpG hl2 h38 hf).2.2 h0) (rOK_keep (P := fun z => vp_in z 1024) E64 hf_at (by omega))
set_option maxHeartbeats 4000000 in
set_option maxRecDepth 100000 in
theorem po_at_Model_each   (S : gw_S)  (hf_at : vp_in (S 0 18) 1024) : vp_in ((f_Model_each S).2 0 18) 1024 := by
  unfold f_Model_each
  refine po_b (Φ := fun p : Unit × gw_S => vp_in (p.2 0 18) 1024) (P := fun r U => vp_in (U 0 18) 1024) (po_at_Model_next S hf_at) (fun r1 S1 p1 => ?_)
  refine po_n (Φ := fun p : Unit × gw_S => vp_in (p.2 0 18) 1024) (fun v7 e7 => ?_)
  refine po_b (Φ := fun p : Unit × gw_S => vp_in (p.2 0 18) 1024) (P := fun r U => vp_in (U 0 18) 1024) (po_at_Model_next S1 p1) (fun r9 S9 p9 => ?_)
  refine po_n (Φ := fun p : Unit × gw_S => vp_in (p.2 0 18) 1024) (fun v15 e15 => ?_)
  refine po_b (Φ := fun p : Unit × gw_S => vp_in (p.2 0 18) 1024) (P := fun r U => vp_in (U 0 18) 1024) (po_at_Model_next S9 p9) (fun r17 S17 p17 => ?_)
  refine po_if (Φ := fun p : Unit × gw_S => vp_in (p.2 0 18) 1024) (fun h23 => ?_) (fun h23 => ?_)
  · exact pl_at_Model_each_35 v15 r17 (gw_inE e15 (gw_and15 _)) (gw_fu ((v15 : Int32).toInt + 1 - (v7 : Int32).toInt)) S17 v7 (gw_fu_pos _) (gw_fu_lt _) (vp_in_iff.mp (gw_inE e7 (gw_and15 _))).1 p17
  · refine po_b (Φ := fun p : Unit × gw_S => vp_in (p.2 0 18) 1024) (P := fun _ U => vp_in (U 0 18) 1024) (po_at_Model_fails S17 (4 : Int32) p17) (fun _ S28 p28 => ?_)
    exact p28
set_option maxHeartbeats 4000000 in
set_option maxRecDepth 100000 in
theorem pl_ok_Model_each_35  (y2 : Int32) (y3 : Int32) (hl2 : vp_in y2 16) : ∀ (n : Nat) (S : gw_S) (x4 : Int32), 0 < n → (y2 : Int32).toInt + 1 - x4.toInt < (n : Int) → 0 ≤ x4.toInt → rOK S → rOK (fl_Model_each_35 y2 y3 n S x4).2 := by
  intro n
  induction n with
  | zero => intro S x4 hn hf h0 hf_ok; exact absurd hn (Nat.lt_irrefl 0)
  | succ n ih =>
    intro S x4 hn hf h0 hf_ok
    refine po_if (Φ := fun p : Unit × gw_S => rOK p.2) (fun h38 => ?_) (fun h38 => ?_)
    · exact hf_ok
    · refine po_if (Φ := fun p : Unit × gw_S => rOK p.2) (fun h43 => ?_) (fun h43 => ?_)
      · refine po_n (Φ := fun p : Unit × gw_S => rOK p.2) (fun S53 E53 => ?_)
        exact ih S53 (x4 + (1 : Int32)) (gw_stpG hl2 h38 hf).1 (gw_stpG hl2 h38 hf).2.1 (gw_up1 (gw_stpG hl2 h38 hf).2.2 h0) (rOK_as E53 hf_ok (by unfold rAs; decide))
      · refine po_n (Φ := fun p : Unit × gw_S => rOK p.2) (fun S64 E64 => ?_)
        exact ih S64 (x4 + (1 : Int32)) (gw_stpG hl2 h38 hf).1 (gw_stpG hl2 h38 hf).2.1 (gw_up1 (gw_stpG hl2 h38 hf).2.2 h0) (rOK_c E64 hf_ok (by omega))
set_option maxHeartbeats 4000000 in
set_option maxRecDepth 100000 in
theorem po_ok_Model_each   (S : gw_S)  (hf_ok : rOK S) : rOK (f_Model_each S).2 := by
  unfold f_Model_each
  refine po_b (Φ := fun p : Unit × gw_S => rOK p.2) (P := fun r U => rOK U) (po_ok_Model_next S hf_ok) (fun r1 S1 p1 => ?_)
  refine po_n (Φ := fun p : Unit × gw_S => rOK p.2) (fun v7 e7 => ?_)
  refine po_b (Φ := fun p : Unit × gw_S => rOK p.2) (P := fun r U => rOK U) (po_ok_Model_next S1 p1) (fun r9 S9 p9 => ?_)
  refine po_n (Φ := fun p : Unit × gw_S => rOK p.2) (fun v15 e15 => ?_)
  refine po_b (Φ := fun p : Unit × gw_S => rOK p.2) (P := fun r U => rOK U) (po_ok_Model_next S9 p9) (fun r17 S17 p17 => ?_)
  refine po_if (Φ := fun p : Unit × gw_S => rOK p.2) (fun h23 => ?_) (fun h23 => ?_)
  · exact pl_ok_Model_each_35 v15 r17 (gw_inE e15 (gw_and15 _)) (gw_fu ((v15 : Int32).toInt + 1 - (v7 : Int32).toInt)) S17 v7 (gw_fu_pos _) (gw_fu_lt _) (vp_in_iff.mp (gw_inE e7 (gw_and15 _))).1 p17
  · refine po_b (Φ := fun p : Unit × gw_S => rOK p.2) (P := fun _ U => rOK U) (po_ok_Model_fails S17 (4 : Int32) p17) (fun _ S28 p28 => ?_)
    exact p28
set_option maxHeartbeats 4000000 in
set_option maxRecDepth 100000 in
theorem pl_nz_Model_each_35 {ν : Int32}  (y2 : Int32) (y3 : Int32) (hl2 : vp_in y2 16) : ∀ (n : Nat) (S : gw_S) (x4 : Int32), 0 < n → (y2 : Int32).toInt + 1 - x4.toInt < (n : Int) → 0 ≤ x4.toInt → S 0 14 = ν → (fl_Model_each_35 y2 y3 n S x4).2 0 14 = ν := by
  intro n
  induction n with
  | zero => intro S x4 hn hf h0 hf_nz; exact absurd hn (Nat.lt_irrefl 0)
  | succ n ih =>
    intro S x4 hn hf h0 hf_nz
    refine po_if (Φ := fun p : Unit × gw_S => p.2 0 14 = ν) (fun h38 => ?_) (fun h38 => ?_)
    · exact hf_nz
    · refine po_if (Φ := fun p : Unit × gw_S => p.2 0 14 = ν) (fun h43 => ?_) (fun h43 => ?_)
      · refine po_n (Φ := fun p : Unit × gw_S => p.2 0 14 = ν) (fun S53 E53 => ?_)
        exact ih S53 (x4 + (1 : Int32)) (gw_stpG hl2 h38 hf).1 (gw_stpG hl2 h38 hf).2.1 (gw_up1 (gw_stpG hl2 h38 hf).2.2 h0) (rOK_keep (P := fun z => z = ν) E53 hf_nz (by omega))
      · refine po_n (Φ := fun p : Unit × gw_S => p.2 0 14 = ν) (fun S64 E64 => ?_)
        exact ih S64 (x4 + (1 : Int32)) (gw_stpG hl2 h38 hf).1 (gw_stpG hl2 h38 hf).2.1 (gw_up1 (gw_stpG hl2 h38 hf).2.2 h0) (rOK_keep (P := fun z => z = ν) E64 hf_nz (by omega))
set_option maxHeartbeats 4000000 in
set_option maxRecDepth 100000 in
theorem po_nz_Model_each {ν : Int32}   (S : gw_S)  (hf_nz : S 0 14 = ν) : (f_Model_each S).2 0 14 = ν := by
  unfold f_Model_each
  refine po_b (Φ := fun p : Unit × gw_S => p.2 0 14 = ν) (P := fun r U => U 0 14 = ν) (po_nz_Model_next S hf_nz) (fun r1 S1 p1 => ?_)
  refine po_n (Φ := fun p : Unit × gw_S => p.2 0 14 = ν) (fun v7 e7 => ?_)
  refine po_b (Φ := fun p : Unit × gw_S => p.2 0 14 = ν) (P := fun r U => U 0 14 = ν) (po_nz_Model_next S1 p1) (fun r9 S9 p9 => ?_)
  refine po_n (Φ := fun p : Unit × gw_S => p.2 0 14 = ν) (fun v15 e15 => ?_)
  refine po_b (Φ := fun p : Unit × gw_S => p.2 0 14 = ν) (P := fun r U => U 0 14 = ν) (po_nz_Model_next S9 p9) (fun r17 S17 p17 => ?_)
  refine po_if (Φ := fun p : Unit × gw_S => p.2 0 14 = ν) (fun h23 => ?_) (fun h23 => ?_)
  · exact pl_nz_Model_each_35 v15 r17 (gw_inE e15 (gw_and15 _)) (gw_fu ((v15 : Int32).toInt + 1 - (v7 : Int32).toInt)) S17 v7 (gw_fu_pos _) (gw_fu_lt _) (vp_in_iff.mp (gw_inE e7 (gw_and15 _))).1 p17
  · refine po_b (Φ := fun p : Unit × gw_S => p.2 0 14 = ν) (P := fun _ U => U 0 14 = ν) (po_nz_Model_fails S17 (4 : Int32) p17) (fun _ S28 p28 => ?_)
    exact p28
noncomputable def f_Model_start   (S : gw_S)  : Unit × gw_S := (gw_b (f_Model_next S) fun r1 S1 => gw_n (r1 &&& (15 : Int32)) fun v7 => gw_b (f_Model_place S1) fun r14 S14 => gw_n (gw_u S14 8 (v7 : Int32).toNatClampNeg r14) fun S17 => ((), S17))
set_option maxHeartbeats 4000000 in
set_option maxRecDepth 100000 in
theorem c_Model_start (hJ : gw_J 20 ad)   (S : gw_S)  (hf_at : vp_in (S 0 18) 1024) : gw_M l y_Model_start prog_8_method_24_code 2 none gTs (gw_rm 3) D gCl (gTys cI cB cC cZ) 20 ad (rE ad cI cB cZ) gw_rV [.ref (ad 0)] S (f_Model_start S) := by
  refine gw_start gTs_ok (plainFor_of_name (by decide)) hJ (Nat.le_of_ble_eq_true rfl) (fun X A F => ?_)
  refine gw_lve (lv' := [(0, .ref (ad 0))]) rfl ?_
  unfold f_Model_start
  refine gw_aload_n (pc := 0) F 0 d_Model_start_0 rfl rfl ?_
  refine gw_cV (pc := 1) (As := []) (rest := []) F (c_Model_next (gw_FJ F) S hf_at) cw_Model_next cv_Model_next tw_550 rfl (by decide) (by decide) (by decide) rE_Model rfl rfl rfl rfl (Nat.le_of_ble_eq_true rfl) d_Model_start_1 (gw_bI (P := fun r U => vp_in (U 0 18) 1024) (po_at_Model_next S hf_at) (fun r1 S1 p1 => ?_))
  refine gw_bipush (pc := 4) (v := (15 : Int32)) F d_Model_start_4 (by decide) ?_
  refine gw_iand (pc := 6) F d_Model_start_6 ?_
  refine gw_nI (fun v7 e7 => ?_)
  refine gw_istore_n (pc := 7) (lv' := [(1, .int v7), (0, .ref (ad 0))]) F d_Model_start_7 rfl (by decide) rfl ?_
  refine gw_aload_n (pc := 8) F 1 d_Model_start_8 rfl rfl ?_
  refine rg_Model_asked (pc := 9) F tw_416 d_Model_start_9 ?_
  refine gw_iload_n (pc := 12) F 0 d_Model_start_12 rfl rfl ?_
  refine gw_aload_n (pc := 13) F 1 d_Model_start_13 rfl rfl ?_
  refine gw_cV (pc := 14) (As := []) (rest := [.int v7, .ref (ad 8)]) F (c_Model_place (gw_FJ F) S1 p1) cw_Model_place cv_Model_place tw_554 rfl (by decide) (by decide) (by decide) rE_Model rfl rfl rfl rfl (Nat.le_of_ble_eq_true rfl) d_Model_start_14 (gw_bI (P := fun r U => vp_in (U 0 18) 1024 ∧ vp_in r 1024) ⟨(po_at_Model_place S1 p1), (rb_place S1)⟩ (fun r14 S14 p14 => ?_))
  refine rs_MAsk (pc := 17) F (gw_inE e7 (gw_and15 _)) d_Model_start_17 ?_
  refine gw_nS (fun S17 E17 => ?_)
  exact gw_vret (pc := 18) F d_Model_start_18
set_option maxHeartbeats 4000000 in
set_option maxRecDepth 100000 in
theorem po_at_Model_start   (S : gw_S)  (hf_at : vp_in (S 0 18) 1024) : vp_in ((f_Model_start S).2 0 18) 1024 := by
  unfold f_Model_start
  refine po_b (Φ := fun p : Unit × gw_S => vp_in (p.2 0 18) 1024) (P := fun r U => vp_in (U 0 18) 1024) (po_at_Model_next S hf_at) (fun r1 S1 p1 => ?_)
  refine po_n (Φ := fun p : Unit × gw_S => vp_in (p.2 0 18) 1024) (fun v7 e7 => ?_)
  refine po_b (Φ := fun p : Unit × gw_S => vp_in (p.2 0 18) 1024) (P := fun r U => vp_in (U 0 18) 1024 ∧ vp_in r 1024) ⟨(po_at_Model_place S1 p1), (rb_place S1)⟩ (fun r14 S14 p14 => ?_)
  refine po_n (Φ := fun p : Unit × gw_S => vp_in (p.2 0 18) 1024) (fun S17 E17 => ?_)
  exact (rOK_keep (P := fun z => vp_in z 1024) E17 p14.1 (by omega))
set_option maxHeartbeats 4000000 in
set_option maxRecDepth 100000 in
theorem po_ok_Model_start   (S : gw_S)  (hf_ok : rOK S) : rOK (f_Model_start S).2 := by
  unfold f_Model_start
  refine po_b (Φ := fun p : Unit × gw_S => rOK p.2) (P := fun r U => rOK U) (po_ok_Model_next S hf_ok) (fun r1 S1 p1 => ?_)
  refine po_n (Φ := fun p : Unit × gw_S => rOK p.2) (fun v7 e7 => ?_)
  refine po_b (Φ := fun p : Unit × gw_S => rOK p.2) (P := fun r U => rOK U ∧ vp_in r 1024) ⟨(po_ok_Model_place S1 p1), (rb_place S1)⟩ (fun r14 S14 p14 => ?_)
  refine po_n (Φ := fun p : Unit × gw_S => rOK p.2) (fun S17 E17 => ?_)
  exact (rOK_as E17 p14.1 (rAs_in p14.2))
set_option maxHeartbeats 4000000 in
set_option maxRecDepth 100000 in
theorem po_nz_Model_start {ν : Int32}   (S : gw_S)  (hf_nz : S 0 14 = ν) : (f_Model_start S).2 0 14 = ν := by
  unfold f_Model_start
  refine po_b (Φ := fun p : Unit × gw_S => p.2 0 14 = ν) (P := fun r U => U 0 14 = ν) (po_nz_Model_next S hf_nz) (fun r1 S1 p1 => ?_)
  refine po_n (Φ := fun p : Unit × gw_S => p.2 0 14 = ν) (fun v7 e7 => ?_)
  refine po_b (Φ := fun p : Unit × gw_S => p.2 0 14 = ν) (P := fun r U => U 0 14 = ν ∧ vp_in r 1024) ⟨(po_nz_Model_place S1 p1), (rb_place S1)⟩ (fun r14 S14 p14 => ?_)
  refine po_n (Φ := fun p : Unit × gw_S => p.2 0 14 = ν) (fun S17 E17 => ?_)
  exact (rOK_keep (P := fun z => z = ν) E17 p14.1 (by omega))
end
