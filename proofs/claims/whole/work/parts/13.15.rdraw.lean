section
variable {l : Launch} {D : va_G} {cI cB cC cZ : ClassId} {ad : Nat → Nat}
noncomputable def fl_Model_draw_77    (n : Nat) : gw_S → Unit × gw_S := gw_L0 (fun self S  => (if (S 0 23) ≤ 0 then (((), S)) else (if (200 : Int32) ≤ (S 0 21) then (((), S)) else (gw_n (gw_u S 0 23 ((S 0 23) - (1 : Int32))) fun S101 => gw_b (f_Model_begin S101 (S101 0 23)) fun _ S109 => (self S109 ))))) (fun S => ((), S)) n
set_option maxHeartbeats 4000000 in
set_option maxRecDepth 100000 in
theorem l_Model_draw_77 {X : gx_M} {A : Nat → Prop}  (F : gw_F X l prog_8_method_34_code 5 none "StageMachineModel" gTs (gw_rm 5) D gCl (gTys cI cB cC cZ) 20 ad A)  : ∀ (n : Nat) (S : gw_S), 0 < n → 200 - (S 0 21).toInt < (n : Int) → vp_in (S 0 18) 1024 → rOK S → rST S → gw_V X (gw_P D gCl 20 ad (rE ad cI cB cZ)) A 5 gw_rV S 77 [(0, .ref (ad 0))] [] (fl_Model_draw_77  n S ) := by
  intro n
  induction n with
  | zero => intro S  hn hf hf_at hf_ok hs; exact absurd hn (Nat.lt_irrefl 0)
  | succ n ih =>
    intro S  hn hf hf_at hf_ok hs
    refine gw_aload_n (pc := 77) F 0 d_Model_draw_77 rfl rfl ?_
    refine rg_Model_parts (pc := 78) F tw_430 d_Model_draw_78 ?_
    refine gw_if_leS (pc := 81) (tgt := 115) F d_Model_draw_81 (by decide) (fun h81 => ?_) (fun h81 => ?_)
    · exact gw_vret (pc := 115) F d_Model_draw_115
    · refine gw_aload_n (pc := 84) F 0 d_Model_draw_84 rfl rfl ?_
      refine rg_Model_drawn (pc := 85) F tw_428 d_Model_draw_85 ?_
      refine gw_sipush (pc := 88) (v := (200 : Int32)) F d_Model_draw_88 (by decide) ?_
      refine gw_icmp_geS (pc := 91) (tgt := 115) F d_Model_draw_91 (by decide) (fun h91 => ?_) (fun h91 => ?_)
      · exact gw_vret (pc := 115) F d_Model_draw_115
      · refine gw_aload_n (pc := 94) F 0 d_Model_draw_94 rfl rfl ?_
        refine gw_dup (pc := 95) F d_Model_draw_95 rfl ?_
        refine rg_Model_parts (pc := 96) F tw_430 d_Model_draw_96 ?_
        refine gw_iconst (pc := 99) (v := (1 : Int32)) F d_Model_draw_99 (by decide) ?_
        refine gw_isub (pc := 100) F d_Model_draw_100 ?_
        refine rp_Model_parts (pc := 101) F tw_430 d_Model_draw_101 ?_
        refine gw_nS (fun S101 E101 => ?_)
        refine gw_aload_n (pc := 104) F 0 d_Model_draw_104 rfl rfl ?_
        refine gw_aload_n (pc := 105) F 0 d_Model_draw_105 rfl rfl ?_
        refine rg_Model_parts (pc := 106) F tw_430 d_Model_draw_106 ?_
        refine gw_cV (pc := 109) (As := [.int (S101 0 23)]) (rest := []) F (c_Model_begin (gw_FJ F) S101 (S101 0 23) (rOK_f E101 hf_ok (by omega)) (rST_pop E101 hs h81).2.2.2 rfl (rST_pop E101 hs h81).2.2.1) cw_Model_begin cv_Model_begin tw_621 rfl (by decide) (by decide) (by decide) rE_Model rfl rfl rfl rfl (Nat.le_of_ble_eq_true rfl) d_Model_draw_109 (gw_bV (P := fun _ U => rOK U ∧ vp_in (U 0 18) 1024 ∧ rST U ∧ U 0 21 = S101 0 21 + (1 : Int32)) ⟨(po_ok_Model_begin S101 (S101 0 23) (rOK_f E101 hf_ok (by omega)) (rST_pop E101 hs h81).2.2.2 rfl (rST_pop E101 hs h81).2.2.1), (po_at_Model_begin S101 (S101 0 23) (rOK_keep (P := fun z => vp_in z 1024) E101 hf_at (by omega)) (rOK_f E101 hf_ok (by omega)) (rST_pop E101 hs h81).2.2.2 rfl (rST_pop E101 hs h81).2.2.1), ⟨po_st_Model_begin S101 (S101 0 23) (rST_pop E101 hs h81).2.1 (rOK_f E101 hf_ok (by omega)) (rST_pop E101 hs h81).2.2.2 rfl (rST_pop E101 hs h81).2.2.1, po_dr_Model_begin S101 (S101 0 23) (rOK_f E101 hf_ok (by omega)) (rST_pop E101 hs h81).2.2.2 rfl (rST_pop E101 hs h81).2.2.1⟩⟩ (fun _ S109 p109 => ?_))
        refine gw_goto (pc := 112) (tgt := 77) F d_Model_draw_112 (by decide) ?_
        refine gw_lvs (lv' := [(0, .ref (ad 0))]) [0] rfl ?_
        exact ih S109  (rb_dr h91 hf E101 p109.2.2.2).1 (rb_dr h91 hf E101 p109.2.2.2).2 p109.2.1 p109.1 p109.2.2.1
noncomputable def f_Model_draw   (S : gw_S)  : Unit × gw_S := (gw_b (f_Model_place S) fun r1 S1 => gw_b (f_Model_name S1) fun r10 S10 => gw_n (S10 3 (r10 : Int32).toNatClampNeg) fun v14 => gw_b (f_Model_name S10) fun r20 S20 => gw_n (S20 3 (r20 : Int32).toNatClampNeg) fun v24 => gw_b (f_Model_next S20) fun r26 S26 => if (128 : Int32) ≤ r26 then (gw_n (gw_u S26 0 22 (64 : Int32)) fun S55 => gw_n (gw_u S55 0 21 (0 : Int32)) fun S60 => gw_n (gw_u S60 0 23 (0 : Int32)) fun S65 => gw_b (f_Model_lay S65 r1 v14 v24 (-1 : Int32) (0 : Int32)) fun _ S74 => (fl_Model_draw_77  (gw_fu (200 - (S74 0 21).toInt)) S74 )) else (gw_n (gw_u S26 0 22 (S26 3 ((r26 &&& (31 : Int32)) : Int32).toNatClampNeg)) fun S55 => gw_n (gw_u S55 0 21 (0 : Int32)) fun S60 => gw_n (gw_u S60 0 23 (0 : Int32)) fun S65 => gw_b (f_Model_lay S65 r1 v14 v24 (-1 : Int32) (0 : Int32)) fun _ S74 => (fl_Model_draw_77  (gw_fu (200 - (S74 0 21).toInt)) S74 )))
set_option maxHeartbeats 4000000 in
set_option maxRecDepth 100000 in
theorem c_Model_draw (hJ : gw_J 20 ad)   (S : gw_S)  (hf_at : vp_in (S 0 18) 1024) (hf_ok : rOK S) : gw_M l y_Model_draw prog_8_method_34_code 5 none gTs (gw_rm 5) D gCl (gTys cI cB cC cZ) 20 ad (rE ad cI cB cZ) gw_rV [.ref (ad 0)] S (f_Model_draw S) := by
  refine gw_start gTs_ok (plainFor_of_name (by decide)) hJ (Nat.le_of_ble_eq_true rfl) (fun X A F => ?_)
  refine gw_lve (lv' := [(0, .ref (ad 0))]) rfl ?_
  unfold f_Model_draw
  refine gw_aload_n (pc := 0) F 0 d_Model_draw_0 rfl rfl ?_
  refine gw_cV (pc := 1) (As := []) (rest := []) F (c_Model_place (gw_FJ F) S hf_at) cw_Model_place cv_Model_place tw_554 rfl (by decide) (by decide) (by decide) rE_Model rfl rfl rfl rfl (Nat.le_of_ble_eq_true rfl) d_Model_draw_1 (gw_bI (P := fun r U => vp_in (U 0 18) 1024 ∧ rOK U ∧ vp_in r 1024) ⟨(po_at_Model_place S hf_at), (po_ok_Model_place S hf_ok), (rb_place S)⟩ (fun r1 S1 p1 => ?_))
  refine gw_istore_n (pc := 4) (lv' := [(1, .int r1), (0, .ref (ad 0))]) F d_Model_draw_4 rfl (by decide) rfl ?_
  refine gw_aload_n (pc := 5) F 1 d_Model_draw_5 rfl rfl ?_
  refine rg_Model_variable (pc := 6) F tw_409 d_Model_draw_6 ?_
  refine gw_aload_n (pc := 9) F 1 d_Model_draw_9 rfl rfl ?_
  refine gw_cV (pc := 10) (As := []) (rest := [.ref (ad 3)]) F (c_Model_name (gw_FJ F) S1 p1.1) cw_Model_name cv_Model_name tw_578 rfl (by decide) (by decide) (by decide) rE_Model rfl rfl rfl rfl (Nat.le_of_ble_eq_true rfl) d_Model_draw_10 (gw_bI (P := fun r U => vp_in (U 0 18) 1024 ∧ rOK U ∧ vp_in r 32) ⟨(po_at_Model_name S1 p1.1), (po_ok_Model_name S1 p1.2.1), (rb_name S1)⟩ (fun r10 S10 p10 => ?_))
  refine rl_MVar (pc := 13) F p10.2.2 d_Model_draw_13 ?_
  refine gw_nI (fun v14 e14 => ?_)
  refine gw_istore_n (pc := 14) (lv' := [(2, .int v14), (1, .int r1), (0, .ref (ad 0))]) F d_Model_draw_14 rfl (by decide) rfl ?_
  refine gw_aload_n (pc := 15) F 2 d_Model_draw_15 rfl rfl ?_
  refine rg_Model_variable (pc := 16) F tw_409 d_Model_draw_16 ?_
  refine gw_aload_n (pc := 19) F 2 d_Model_draw_19 rfl rfl ?_
  refine gw_cV (pc := 20) (As := []) (rest := [.ref (ad 3)]) F (c_Model_name (gw_FJ F) S10 p10.1) cw_Model_name cv_Model_name tw_578 rfl (by decide) (by decide) (by decide) rE_Model rfl rfl rfl rfl (Nat.le_of_ble_eq_true rfl) d_Model_draw_20 (gw_bI (P := fun r U => vp_in (U 0 18) 1024 ∧ rOK U ∧ vp_in r 32) ⟨(po_at_Model_name S10 p10.1), (po_ok_Model_name S10 p10.2.1), (rb_name S10)⟩ (fun r20 S20 p20 => ?_))
  refine rl_MVar (pc := 23) F p20.2.2 d_Model_draw_23 ?_
  refine gw_nI (fun v24 e24 => ?_)
  refine gw_istore_n (pc := 24) (lv' := [(3, .int v24), (2, .int v14), (1, .int r1), (0, .ref (ad 0))]) F d_Model_draw_24 rfl (by decide) rfl ?_
  refine gw_aload_n (pc := 25) F 3 d_Model_draw_25 rfl rfl ?_
  refine gw_cV (pc := 26) (As := []) (rest := []) F (c_Model_next (gw_FJ F) S20 p20.1) cw_Model_next cv_Model_next tw_550 rfl (by decide) (by decide) (by decide) rE_Model rfl rfl rfl rfl (Nat.le_of_ble_eq_true rfl) d_Model_draw_26 (gw_bI (P := fun r U => vp_in (U 0 18) 1024 ∧ rOK U) ⟨(po_at_Model_next S20 p20.1), (po_ok_Model_next S20 p20.2.1)⟩ (fun r26 S26 p26 => ?_))
  refine gw_istore (pc := 29) (lv' := [(4, .int r26), (3, .int v24), (2, .int v14), (1, .int r1), (0, .ref (ad 0))]) F d_Model_draw_29 (by decide) rfl ?_
  refine gw_aload_n (pc := 31) F 4 d_Model_draw_31 rfl rfl ?_
  refine gw_iload (pc := 32) F 0 d_Model_draw_32 rfl ?_
  refine gw_sipush (pc := 34) (v := (128 : Int32)) F d_Model_draw_34 (by decide) ?_
  refine gw_icmp_geS (pc := 37) (tgt := 53) F d_Model_draw_37 (by decide) (fun h37 => ?_) (fun h37 => ?_)
  · refine gw_bipush (pc := 53) (v := (64 : Int32)) F d_Model_draw_53 (by decide) ?_
    refine rp_Model_zoom (pc := 55) F tw_429 d_Model_draw_55 ?_
    refine gw_nS (fun S55 E55 => ?_)
    refine gw_aload_n (pc := 58) F 4 d_Model_draw_58 rfl rfl ?_
    refine gw_iconst (pc := 59) (v := (0 : Int32)) F d_Model_draw_59 (by decide) ?_
    refine rp_Model_drawn (pc := 60) F tw_428 d_Model_draw_60 ?_
    refine gw_nS (fun S60 E60 => ?_)
    refine gw_aload_n (pc := 63) F 4 d_Model_draw_63 rfl rfl ?_
    refine gw_iconst (pc := 64) (v := (0 : Int32)) F d_Model_draw_64 (by decide) ?_
    refine rp_Model_parts (pc := 65) F tw_430 d_Model_draw_65 ?_
    refine gw_nS (fun S65 E65 => ?_)
    refine gw_aload_n (pc := 68) F 4 d_Model_draw_68 rfl rfl ?_
    refine gw_iload_n (pc := 69) F 3 d_Model_draw_69 rfl rfl ?_
    refine gw_iload_n (pc := 70) F 2 d_Model_draw_70 rfl rfl ?_
    refine gw_iload_n (pc := 71) F 1 d_Model_draw_71 rfl rfl ?_
    refine gw_iconst (pc := 72) (v := (-1 : Int32)) F d_Model_draw_72 (by decide) ?_
    refine gw_iconst (pc := 73) (v := (0 : Int32)) F d_Model_draw_73 (by decide) ?_
    refine gw_cV (pc := 74) (As := [.int r1, .int v14, .int v24, .int (-1 : Int32), .int (0 : Int32)]) (rest := []) F (c_Model_lay (gw_FJ F) S65 r1 v14 v24 (-1 : Int32) (0 : Int32) (rPt0 E65) p1.2.2) cw_Model_lay cv_Model_lay tw_617 rfl (by decide) (by decide) (by decide) rE_Model rfl rfl rfl rfl (Nat.le_of_ble_eq_true rfl) d_Model_draw_74 (gw_bV (P := fun _ U => vp_in (U 0 18) 1024 ∧ rOK U ∧ rST U) ⟨(po_at_Model_lay S65 r1 v14 v24 (-1 : Int32) (0 : Int32) (rOK_keep (P := fun z => vp_in z 1024) E65 (rOK_keep (P := fun z => vp_in z 1024) E60 (rOK_keep (P := fun z => vp_in z 1024) E55 p26.1 (by omega)) (by omega)) (by omega)) p1.2.2), (po_ok_Model_lay S65 r1 v14 v24 (-1 : Int32) (0 : Int32) (rOK_f E65 (rOK_f E60 (rOK_f E55 p26.2 (by omega)) (by omega)) (by omega)) p1.2.2), (rST_one (rDz23 E65) (rb_lay23 S65 r1 v14 v24 (-1 : Int32) (0 : Int32)) (rb_lay16 S65 r1 v14 v24 (-1 : Int32) (0 : Int32)))⟩ (fun _ S74 p74 => ?_))
    refine gw_lvs (lv' := [(0, .ref (ad 0))]) [4] rfl ?_
    exact l_Model_draw_77  F   (gw_fu (200 - (S74 0 21).toInt)) S74  (gw_fu_pos _) (gw_fu_lt _) p74.1 p74.2.1 p74.2.2
  · refine gw_aload_n (pc := 40) F 4 d_Model_draw_40 rfl rfl ?_
    refine rg_Model_variable (pc := 41) F tw_409 d_Model_draw_41 ?_
    refine gw_iload (pc := 44) F 0 d_Model_draw_44 rfl ?_
    refine gw_bipush (pc := 46) (v := (31 : Int32)) F d_Model_draw_46 (by decide) ?_
    refine gw_iand (pc := 48) F d_Model_draw_48 ?_
    refine rl_MVar (pc := 49) F (gw_and31 _) d_Model_draw_49 ?_
    refine gw_goto (pc := 50) (tgt := 55) F d_Model_draw_50 (by decide) ?_
    refine rp_Model_zoom (pc := 55) F tw_429 d_Model_draw_55 ?_
    refine gw_nS (fun S55 E55 => ?_)
    refine gw_aload_n (pc := 58) F 4 d_Model_draw_58 rfl rfl ?_
    refine gw_iconst (pc := 59) (v := (0 : Int32)) F d_Model_draw_59 (by decide) ?_
    refine rp_Model_drawn (pc := 60) F tw_428 d_Model_draw_60 ?_
    refine gw_nS (fun S60 E60 => ?_)
    refine gw_aload_n (pc := 63) F 4 d_Model_draw_63 rfl rfl ?_
    refine gw_iconst (pc := 64) (v := (0 : Int32)) F d_Model_draw_64 (by decide) ?_
    refine rp_Model_parts (pc := 65) F tw_430 d_Model_draw_65 ?_
    refine gw_nS (fun S65 E65 => ?_)
    refine gw_aload_n (pc := 68) F 4 d_Model_draw_68 rfl rfl ?_
    refine gw_iload_n (pc := 69) F 3 d_Model_draw_69 rfl rfl ?_
    refine gw_iload_n (pc := 70) F 2 d_Model_draw_70 rfl rfl ?_
    refine gw_iload_n (pc := 71) F 1 d_Model_draw_71 rfl rfl ?_
    refine gw_iconst (pc := 72) (v := (-1 : Int32)) F d_Model_draw_72 (by decide) ?_
    refine gw_iconst (pc := 73) (v := (0 : Int32)) F d_Model_draw_73 (by decide) ?_
    refine gw_cV (pc := 74) (As := [.int r1, .int v14, .int v24, .int (-1 : Int32), .int (0 : Int32)]) (rest := []) F (c_Model_lay (gw_FJ F) S65 r1 v14 v24 (-1 : Int32) (0 : Int32) (rPt0 E65) p1.2.2) cw_Model_lay cv_Model_lay tw_617 rfl (by decide) (by decide) (by decide) rE_Model rfl rfl rfl rfl (Nat.le_of_ble_eq_true rfl) d_Model_draw_74 (gw_bV (P := fun _ U => vp_in (U 0 18) 1024 ∧ rOK U ∧ rST U) ⟨(po_at_Model_lay S65 r1 v14 v24 (-1 : Int32) (0 : Int32) (rOK_keep (P := fun z => vp_in z 1024) E65 (rOK_keep (P := fun z => vp_in z 1024) E60 (rOK_keep (P := fun z => vp_in z 1024) E55 p26.1 (by omega)) (by omega)) (by omega)) p1.2.2), (po_ok_Model_lay S65 r1 v14 v24 (-1 : Int32) (0 : Int32) (rOK_f E65 (rOK_f E60 (rOK_f E55 p26.2 (by omega)) (by omega)) (by omega)) p1.2.2), (rST_one (rDz23 E65) (rb_lay23 S65 r1 v14 v24 (-1 : Int32) (0 : Int32)) (rb_lay16 S65 r1 v14 v24 (-1 : Int32) (0 : Int32)))⟩ (fun _ S74 p74 => ?_))
    refine gw_lvs (lv' := [(0, .ref (ad 0))]) [4] rfl ?_
    exact l_Model_draw_77  F   (gw_fu (200 - (S74 0 21).toInt)) S74  (gw_fu_pos _) (gw_fu_lt _) p74.1 p74.2.1 p74.2.2
set_option maxHeartbeats 4000000 in
set_option maxRecDepth 100000 in
theorem pl_at_Model_draw_77   : ∀ (n : Nat) (S : gw_S), 0 < n → 200 - (S 0 21).toInt < (n : Int) → vp_in (S 0 18) 1024 → rOK S → rST S → vp_in ((fl_Model_draw_77  n S ).2 0 18) 1024 := by
  intro n
  induction n with
  | zero => intro S  hn hf hf_at hf_ok hs; exact absurd hn (Nat.lt_irrefl 0)
  | succ n ih =>
    intro S  hn hf hf_at hf_ok hs
    refine po_if (Φ := fun p : Unit × gw_S => vp_in (p.2 0 18) 1024) (fun h81 => ?_) (fun h81 => ?_)
    · exact hf_at
    · refine po_if (Φ := fun p : Unit × gw_S => vp_in (p.2 0 18) 1024) (fun h91 => ?_) (fun h91 => ?_)
      · exact hf_at
      · refine po_n (Φ := fun p : Unit × gw_S => vp_in (p.2 0 18) 1024) (fun S101 E101 => ?_)
        refine po_b (Φ := fun p : Unit × gw_S => vp_in (p.2 0 18) 1024) (P := fun _ U => rOK U ∧ vp_in (U 0 18) 1024 ∧ rST U ∧ U 0 21 = S101 0 21 + (1 : Int32)) ⟨(po_ok_Model_begin S101 (S101 0 23) (rOK_f E101 hf_ok (by omega)) (rST_pop E101 hs h81).2.2.2 rfl (rST_pop E101 hs h81).2.2.1), (po_at_Model_begin S101 (S101 0 23) (rOK_keep (P := fun z => vp_in z 1024) E101 hf_at (by omega)) (rOK_f E101 hf_ok (by omega)) (rST_pop E101 hs h81).2.2.2 rfl (rST_pop E101 hs h81).2.2.1), ⟨po_st_Model_begin S101 (S101 0 23) (rST_pop E101 hs h81).2.1 (rOK_f E101 hf_ok (by omega)) (rST_pop E101 hs h81).2.2.2 rfl (rST_pop E101 hs h81).2.2.1, po_dr_Model_begin S101 (S101 0 23) (rOK_f E101 hf_ok (by omega)) (rST_pop E101 hs h81).2.2.2 rfl (rST_pop E101 hs h81).2.2.1⟩⟩ (fun _ S109 p109 => ?_)
        exact ih S109  (rb_dr h91 hf E101 p109.2.2.2).1 (rb_dr h91 hf E101 p109.2.2.2).2 p109.2.1 p109.1 p109.2.2.1
set_option maxHeartbeats 4000000 in
set_option maxRecDepth 100000 in
theorem po_at_Model_draw   (S : gw_S)  (hf_at : vp_in (S 0 18) 1024) (hf_ok : rOK S) : vp_in ((f_Model_draw S).2 0 18) 1024 := by
  unfold f_Model_draw
  refine po_b (Φ := fun p : Unit × gw_S => vp_in (p.2 0 18) 1024) (P := fun r U => vp_in (U 0 18) 1024 ∧ rOK U ∧ vp_in r 1024) ⟨(po_at_Model_place S hf_at), (po_ok_Model_place S hf_ok), (rb_place S)⟩ (fun r1 S1 p1 => ?_)
  refine po_b (Φ := fun p : Unit × gw_S => vp_in (p.2 0 18) 1024) (P := fun r U => vp_in (U 0 18) 1024 ∧ rOK U ∧ vp_in r 32) ⟨(po_at_Model_name S1 p1.1), (po_ok_Model_name S1 p1.2.1), (rb_name S1)⟩ (fun r10 S10 p10 => ?_)
  refine po_n (Φ := fun p : Unit × gw_S => vp_in (p.2 0 18) 1024) (fun v14 e14 => ?_)
  refine po_b (Φ := fun p : Unit × gw_S => vp_in (p.2 0 18) 1024) (P := fun r U => vp_in (U 0 18) 1024 ∧ rOK U ∧ vp_in r 32) ⟨(po_at_Model_name S10 p10.1), (po_ok_Model_name S10 p10.2.1), (rb_name S10)⟩ (fun r20 S20 p20 => ?_)
  refine po_n (Φ := fun p : Unit × gw_S => vp_in (p.2 0 18) 1024) (fun v24 e24 => ?_)
  refine po_b (Φ := fun p : Unit × gw_S => vp_in (p.2 0 18) 1024) (P := fun r U => vp_in (U 0 18) 1024 ∧ rOK U) ⟨(po_at_Model_next S20 p20.1), (po_ok_Model_next S20 p20.2.1)⟩ (fun r26 S26 p26 => ?_)
  refine po_if (Φ := fun p : Unit × gw_S => vp_in (p.2 0 18) 1024) (fun h37 => ?_) (fun h37 => ?_)
  · refine po_n (Φ := fun p : Unit × gw_S => vp_in (p.2 0 18) 1024) (fun S55 E55 => ?_)
    refine po_n (Φ := fun p : Unit × gw_S => vp_in (p.2 0 18) 1024) (fun S60 E60 => ?_)
    refine po_n (Φ := fun p : Unit × gw_S => vp_in (p.2 0 18) 1024) (fun S65 E65 => ?_)
    refine po_b (Φ := fun p : Unit × gw_S => vp_in (p.2 0 18) 1024) (P := fun _ U => vp_in (U 0 18) 1024 ∧ rOK U ∧ rST U) ⟨(po_at_Model_lay S65 r1 v14 v24 (-1 : Int32) (0 : Int32) (rOK_keep (P := fun z => vp_in z 1024) E65 (rOK_keep (P := fun z => vp_in z 1024) E60 (rOK_keep (P := fun z => vp_in z 1024) E55 p26.1 (by omega)) (by omega)) (by omega)) p1.2.2), (po_ok_Model_lay S65 r1 v14 v24 (-1 : Int32) (0 : Int32) (rOK_f E65 (rOK_f E60 (rOK_f E55 p26.2 (by omega)) (by omega)) (by omega)) p1.2.2), (rST_one (rDz23 E65) (rb_lay23 S65 r1 v14 v24 (-1 : Int32) (0 : Int32)) (rb_lay16 S65 r1 v14 v24 (-1 : Int32) (0 : Int32)))⟩ (fun _ S74 p74 => ?_)
    exact pl_at_Model_draw_77   (gw_fu (200 - (S74 0 21).toInt)) S74  (gw_fu_pos _) (gw_fu_lt _) p74.1 p74.2.1 p74.2.2
  · refine po_n (Φ := fun p : Unit × gw_S => vp_in (p.2 0 18) 1024) (fun S55 E55 => ?_)
    refine po_n (Φ := fun p : Unit × gw_S => vp_in (p.2 0 18) 1024) (fun S60 E60 => ?_)
    refine po_n (Φ := fun p : Unit × gw_S => vp_in (p.2 0 18) 1024) (fun S65 E65 => ?_)
    refine po_b (Φ := fun p : Unit × gw_S => vp_in (p.2 0 18) 1024) (P := fun _ U => vp_in (U 0 18) 1024 ∧ rOK U ∧ rST U) ⟨(po_at_Model_lay S65 r1 v14 v24 (-1 : Int32) (0 : Int32) (rOK_keep (P := fun z => vp_in z 1024) E65 (rOK_keep (P := fun z => vp_in z 1024) E60 (rOK_keep (P := fun z => vp_in z 1024) E55 p26.1 (by omega)) (by omega)) (by omega)) p1.2.2), (po_ok_Model_lay S65 r1 v14 v24 (-1 : Int32) (0 : Int32) (rOK_f E65 (rOK_f E60 (rOK_f E55 p26.2 (by omega)) (by omega)) (by omega)) p1.2.2), (rST_one (rDz23 E65) (rb_lay23 S65 r1 v14 v24 (-1 : Int32) (0 : Int32)) (rb_lay16 S65 r1 v14 v24 (-1 : Int32) (0 : Int32)))⟩ (fun _ S74 p74 => ?_)
    exact pl_at_Model_draw_77   (gw_fu (200 - (S74 0 21).toInt)) S74  (gw_fu_pos _) (gw_fu_lt _) p74.1 p74.2.1 p74.2.2
set_option maxHeartbeats 4000000 in
set_option maxRecDepth 100000 in
theorem pl_ok_Model_draw_77   : ∀ (n : Nat) (S : gw_S), 0 < n → 200 - (S 0 21).toInt < (n : Int) → vp_in (S 0 18) 1024 → rOK S → rST S → rOK (fl_Model_draw_77  n S ).2 := by
  intro n
  induction n with
  | zero => intro S  hn hf hf_at hf_ok hs; exact absurd hn (Nat.lt_irrefl 0)
  | succ n ih =>
    intro S  hn hf hf_at hf_ok hs
    refine po_if (Φ := fun p : Unit × gw_S => rOK p.2) (fun h81 => ?_) (fun h81 => ?_)
    · exact hf_ok
    · refine po_if (Φ := fun p : Unit × gw_S => rOK p.2) (fun h91 => ?_) (fun h91 => ?_)
      · exact hf_ok
      · refine po_n (Φ := fun p : Unit × gw_S => rOK p.2) (fun S101 E101 => ?_)
        refine po_b (Φ := fun p : Unit × gw_S => rOK p.2) (P := fun _ U => rOK U ∧ vp_in (U 0 18) 1024 ∧ rST U ∧ U 0 21 = S101 0 21 + (1 : Int32)) ⟨(po_ok_Model_begin S101 (S101 0 23) (rOK_f E101 hf_ok (by omega)) (rST_pop E101 hs h81).2.2.2 rfl (rST_pop E101 hs h81).2.2.1), (po_at_Model_begin S101 (S101 0 23) (rOK_keep (P := fun z => vp_in z 1024) E101 hf_at (by omega)) (rOK_f E101 hf_ok (by omega)) (rST_pop E101 hs h81).2.2.2 rfl (rST_pop E101 hs h81).2.2.1), ⟨po_st_Model_begin S101 (S101 0 23) (rST_pop E101 hs h81).2.1 (rOK_f E101 hf_ok (by omega)) (rST_pop E101 hs h81).2.2.2 rfl (rST_pop E101 hs h81).2.2.1, po_dr_Model_begin S101 (S101 0 23) (rOK_f E101 hf_ok (by omega)) (rST_pop E101 hs h81).2.2.2 rfl (rST_pop E101 hs h81).2.2.1⟩⟩ (fun _ S109 p109 => ?_)
        exact ih S109  (rb_dr h91 hf E101 p109.2.2.2).1 (rb_dr h91 hf E101 p109.2.2.2).2 p109.2.1 p109.1 p109.2.2.1
set_option maxHeartbeats 4000000 in
set_option maxRecDepth 100000 in
theorem po_ok_Model_draw   (S : gw_S)  (hf_at : vp_in (S 0 18) 1024) (hf_ok : rOK S) : rOK (f_Model_draw S).2 := by
  unfold f_Model_draw
  refine po_b (Φ := fun p : Unit × gw_S => rOK p.2) (P := fun r U => vp_in (U 0 18) 1024 ∧ rOK U ∧ vp_in r 1024) ⟨(po_at_Model_place S hf_at), (po_ok_Model_place S hf_ok), (rb_place S)⟩ (fun r1 S1 p1 => ?_)
  refine po_b (Φ := fun p : Unit × gw_S => rOK p.2) (P := fun r U => vp_in (U 0 18) 1024 ∧ rOK U ∧ vp_in r 32) ⟨(po_at_Model_name S1 p1.1), (po_ok_Model_name S1 p1.2.1), (rb_name S1)⟩ (fun r10 S10 p10 => ?_)
  refine po_n (Φ := fun p : Unit × gw_S => rOK p.2) (fun v14 e14 => ?_)
  refine po_b (Φ := fun p : Unit × gw_S => rOK p.2) (P := fun r U => vp_in (U 0 18) 1024 ∧ rOK U ∧ vp_in r 32) ⟨(po_at_Model_name S10 p10.1), (po_ok_Model_name S10 p10.2.1), (rb_name S10)⟩ (fun r20 S20 p20 => ?_)
  refine po_n (Φ := fun p : Unit × gw_S => rOK p.2) (fun v24 e24 => ?_)
  refine po_b (Φ := fun p : Unit × gw_S => rOK p.2) (P := fun r U => vp_in (U 0 18) 1024 ∧ rOK U) ⟨(po_at_Model_next S20 p20.1), (po_ok_Model_next S20 p20.2.1)⟩ (fun r26 S26 p26 => ?_)
  refine po_if (Φ := fun p : Unit × gw_S => rOK p.2) (fun h37 => ?_) (fun h37 => ?_)
  · refine po_n (Φ := fun p : Unit × gw_S => rOK p.2) (fun S55 E55 => ?_)
    refine po_n (Φ := fun p : Unit × gw_S => rOK p.2) (fun S60 E60 => ?_)
    refine po_n (Φ := fun p : Unit × gw_S => rOK p.2) (fun S65 E65 => ?_)
    refine po_b (Φ := fun p : Unit × gw_S => rOK p.2) (P := fun _ U => vp_in (U 0 18) 1024 ∧ rOK U ∧ rST U) ⟨(po_at_Model_lay S65 r1 v14 v24 (-1 : Int32) (0 : Int32) (rOK_keep (P := fun z => vp_in z 1024) E65 (rOK_keep (P := fun z => vp_in z 1024) E60 (rOK_keep (P := fun z => vp_in z 1024) E55 p26.1 (by omega)) (by omega)) (by omega)) p1.2.2), (po_ok_Model_lay S65 r1 v14 v24 (-1 : Int32) (0 : Int32) (rOK_f E65 (rOK_f E60 (rOK_f E55 p26.2 (by omega)) (by omega)) (by omega)) p1.2.2), (rST_one (rDz23 E65) (rb_lay23 S65 r1 v14 v24 (-1 : Int32) (0 : Int32)) (rb_lay16 S65 r1 v14 v24 (-1 : Int32) (0 : Int32)))⟩ (fun _ S74 p74 => ?_)
    exact pl_ok_Model_draw_77   (gw_fu (200 - (S74 0 21).toInt)) S74  (gw_fu_pos _) (gw_fu_lt _) p74.1 p74.2.1 p74.2.2
  · refine po_n (Φ := fun p : Unit × gw_S => rOK p.2) (fun S55 E55 => ?_)
    refine po_n (Φ := fun p : Unit × gw_S => rOK p.2) (fun S60 E60 => ?_)
    refine po_n (Φ := fun p : Unit × gw_S => rOK p.2) (fun S65 E65 => ?_)
    refine po_b (Φ := fun p : Unit × gw_S => rOK p.2) (P := fun _ U => vp_in (U 0 18) 1024 ∧ rOK U ∧ rST U) ⟨(po_at_Model_lay S65 r1 v14 v24 (-1 : Int32) (0 : Int32) (rOK_keep (P := fun z => vp_in z 1024) E65 (rOK_keep (P := fun z => vp_in z 1024) E60 (rOK_keep (P := fun z => vp_in z 1024) E55 p26.1 (by omega)) (by omega)) (by omega)) p1.2.2), (po_ok_Model_lay S65 r1 v14 v24 (-1 : Int32) (0 : Int32) (rOK_f E65 (rOK_f E60 (rOK_f E55 p26.2 (by omega)) (by omega)) (by omega)) p1.2.2), (rST_one (rDz23 E65) (rb_lay23 S65 r1 v14 v24 (-1 : Int32) (0 : Int32)) (rb_lay16 S65 r1 v14 v24 (-1 : Int32) (0 : Int32)))⟩ (fun _ S74 p74 => ?_)
    exact pl_ok_Model_draw_77   (gw_fu (200 - (S74 0 21).toInt)) S74  (gw_fu_pos _) (gw_fu_lt _) p74.1 p74.2.1 p74.2.2
set_option maxHeartbeats 4000000 in
set_option maxRecDepth 100000 in
theorem pl_nz_Model_draw_77 {ν : Int32}   : ∀ (n : Nat) (S : gw_S), 0 < n → 200 - (S 0 21).toInt < (n : Int) → vp_in (S 0 18) 1024 → rOK S → rST S → S 0 14 = ν → (fl_Model_draw_77  n S ).2 0 14 = ν := by
  intro n
  induction n with
  | zero => intro S  hn hf hf_at hf_ok hs hf_nz; exact absurd hn (Nat.lt_irrefl 0)
  | succ n ih =>
    intro S  hn hf hf_at hf_ok hs hf_nz
    refine po_if (Φ := fun p : Unit × gw_S => p.2 0 14 = ν) (fun h81 => ?_) (fun h81 => ?_)
    · exact hf_nz
    · refine po_if (Φ := fun p : Unit × gw_S => p.2 0 14 = ν) (fun h91 => ?_) (fun h91 => ?_)
      · exact hf_nz
      · refine po_n (Φ := fun p : Unit × gw_S => p.2 0 14 = ν) (fun S101 E101 => ?_)
        refine po_b (Φ := fun p : Unit × gw_S => p.2 0 14 = ν) (P := fun _ U => rOK U ∧ vp_in (U 0 18) 1024 ∧ U 0 14 = ν ∧ rST U ∧ U 0 21 = S101 0 21 + (1 : Int32)) ⟨(po_ok_Model_begin S101 (S101 0 23) (rOK_f E101 hf_ok (by omega)) (rST_pop E101 hs h81).2.2.2 rfl (rST_pop E101 hs h81).2.2.1), (po_at_Model_begin S101 (S101 0 23) (rOK_keep (P := fun z => vp_in z 1024) E101 hf_at (by omega)) (rOK_f E101 hf_ok (by omega)) (rST_pop E101 hs h81).2.2.2 rfl (rST_pop E101 hs h81).2.2.1), (po_nz_Model_begin S101 (S101 0 23) (rOK_keep (P := fun z => z = ν) E101 hf_nz (by omega)) (rOK_f E101 hf_ok (by omega)) (rST_pop E101 hs h81).2.2.2 rfl (rST_pop E101 hs h81).2.2.1), ⟨po_st_Model_begin S101 (S101 0 23) (rST_pop E101 hs h81).2.1 (rOK_f E101 hf_ok (by omega)) (rST_pop E101 hs h81).2.2.2 rfl (rST_pop E101 hs h81).2.2.1, po_dr_Model_begin S101 (S101 0 23) (rOK_f E101 hf_ok (by omega)) (rST_pop E101 hs h81).2.2.2 rfl (rST_pop E101 hs h81).2.2.1⟩⟩ (fun _ S109 p109 => ?_)
        exact ih S109  (rb_dr h91 hf E101 p109.2.2.2.2).1 (rb_dr h91 hf E101 p109.2.2.2.2).2 p109.2.1 p109.1 p109.2.2.2.1 p109.2.2.1
set_option maxHeartbeats 4000000 in
set_option maxRecDepth 100000 in
theorem po_nz_Model_draw {ν : Int32}   (S : gw_S)  (hf_nz : S 0 14 = ν) (hf_at : vp_in (S 0 18) 1024) (hf_ok : rOK S) : (f_Model_draw S).2 0 14 = ν := by
  unfold f_Model_draw
  refine po_b (Φ := fun p : Unit × gw_S => p.2 0 14 = ν) (P := fun r U => vp_in (U 0 18) 1024 ∧ rOK U ∧ U 0 14 = ν ∧ vp_in r 1024) ⟨(po_at_Model_place S hf_at), (po_ok_Model_place S hf_ok), (po_nz_Model_place S hf_nz), (rb_place S)⟩ (fun r1 S1 p1 => ?_)
  refine po_b (Φ := fun p : Unit × gw_S => p.2 0 14 = ν) (P := fun r U => vp_in (U 0 18) 1024 ∧ rOK U ∧ U 0 14 = ν ∧ vp_in r 32) ⟨(po_at_Model_name S1 p1.1), (po_ok_Model_name S1 p1.2.1), (po_nz_Model_name S1 p1.2.2.1), (rb_name S1)⟩ (fun r10 S10 p10 => ?_)
  refine po_n (Φ := fun p : Unit × gw_S => p.2 0 14 = ν) (fun v14 e14 => ?_)
  refine po_b (Φ := fun p : Unit × gw_S => p.2 0 14 = ν) (P := fun r U => vp_in (U 0 18) 1024 ∧ rOK U ∧ U 0 14 = ν ∧ vp_in r 32) ⟨(po_at_Model_name S10 p10.1), (po_ok_Model_name S10 p10.2.1), (po_nz_Model_name S10 p10.2.2.1), (rb_name S10)⟩ (fun r20 S20 p20 => ?_)
  refine po_n (Φ := fun p : Unit × gw_S => p.2 0 14 = ν) (fun v24 e24 => ?_)
  refine po_b (Φ := fun p : Unit × gw_S => p.2 0 14 = ν) (P := fun r U => vp_in (U 0 18) 1024 ∧ rOK U ∧ U 0 14 = ν) ⟨(po_at_Model_next S20 p20.1), (po_ok_Model_next S20 p20.2.1), (po_nz_Model_next S20 p20.2.2.1)⟩ (fun r26 S26 p26 => ?_)
  refine po_if (Φ := fun p : Unit × gw_S => p.2 0 14 = ν) (fun h37 => ?_) (fun h37 => ?_)
  · refine po_n (Φ := fun p : Unit × gw_S => p.2 0 14 = ν) (fun S55 E55 => ?_)
    refine po_n (Φ := fun p : Unit × gw_S => p.2 0 14 = ν) (fun S60 E60 => ?_)
    refine po_n (Φ := fun p : Unit × gw_S => p.2 0 14 = ν) (fun S65 E65 => ?_)
    refine po_b (Φ := fun p : Unit × gw_S => p.2 0 14 = ν) (P := fun _ U => vp_in (U 0 18) 1024 ∧ rOK U ∧ U 0 14 = ν ∧ rST U) ⟨(po_at_Model_lay S65 r1 v14 v24 (-1 : Int32) (0 : Int32) (rOK_keep (P := fun z => vp_in z 1024) E65 (rOK_keep (P := fun z => vp_in z 1024) E60 (rOK_keep (P := fun z => vp_in z 1024) E55 p26.1 (by omega)) (by omega)) (by omega)) p1.2.2.2), (po_ok_Model_lay S65 r1 v14 v24 (-1 : Int32) (0 : Int32) (rOK_f E65 (rOK_f E60 (rOK_f E55 p26.2.1 (by omega)) (by omega)) (by omega)) p1.2.2.2), (po_nz_Model_lay S65 r1 v14 v24 (-1 : Int32) (0 : Int32) (rOK_keep (P := fun z => z = ν) E65 (rOK_keep (P := fun z => z = ν) E60 (rOK_keep (P := fun z => z = ν) E55 p26.2.2 (by omega)) (by omega)) (by omega)) p1.2.2.2), (rST_one (rDz23 E65) (rb_lay23 S65 r1 v14 v24 (-1 : Int32) (0 : Int32)) (rb_lay16 S65 r1 v14 v24 (-1 : Int32) (0 : Int32)))⟩ (fun _ S74 p74 => ?_)
    exact pl_nz_Model_draw_77   (gw_fu (200 - (S74 0 21).toInt)) S74  (gw_fu_pos _) (gw_fu_lt _) p74.1 p74.2.1 p74.2.2.2 p74.2.2.1
  · refine po_n (Φ := fun p : Unit × gw_S => p.2 0 14 = ν) (fun S55 E55 => ?_)
    refine po_n (Φ := fun p : Unit × gw_S => p.2 0 14 = ν) (fun S60 E60 => ?_)
    refine po_n (Φ := fun p : Unit × gw_S => p.2 0 14 = ν) (fun S65 E65 => ?_)
    refine po_b (Φ := fun p : Unit × gw_S => p.2 0 14 = ν) (P := fun _ U => vp_in (U 0 18) 1024 ∧ rOK U ∧ U 0 14 = ν ∧ rST U) ⟨(po_at_Model_lay S65 r1 v14 v24 (-1 : Int32) (0 : Int32) (rOK_keep (P := fun z => vp_in z 1024) E65 (rOK_keep (P := fun z => vp_in z 1024) E60 (rOK_keep (P := fun z => vp_in z 1024) E55 p26.1 (by omega)) (by omega)) (by omega)) p1.2.2.2), (po_ok_Model_lay S65 r1 v14 v24 (-1 : Int32) (0 : Int32) (rOK_f E65 (rOK_f E60 (rOK_f E55 p26.2.1 (by omega)) (by omega)) (by omega)) p1.2.2.2), (po_nz_Model_lay S65 r1 v14 v24 (-1 : Int32) (0 : Int32) (rOK_keep (P := fun z => z = ν) E65 (rOK_keep (P := fun z => z = ν) E60 (rOK_keep (P := fun z => z = ν) E55 p26.2.2 (by omega)) (by omega)) (by omega)) p1.2.2.2), (rST_one (rDz23 E65) (rb_lay23 S65 r1 v14 v24 (-1 : Int32) (0 : Int32)) (rb_lay16 S65 r1 v14 v24 (-1 : Int32) (0 : Int32)))⟩ (fun _ S74 p74 => ?_)
    exact pl_nz_Model_draw_77   (gw_fu (200 - (S74 0 21).toInt)) S74  (gw_fu_pos _) (gw_fu_lt _) p74.1 p74.2.1 p74.2.2.2 p74.2.2.1
end
