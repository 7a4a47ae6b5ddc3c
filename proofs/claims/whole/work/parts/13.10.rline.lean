section
variable {l : Launch} {D : va_G} {cI cB cC cZ : ClassId} {ad : Nat → Nat}
noncomputable def fl_Model_line_79   (a2 : Int32) (a3 : Int32) (y6 : Int64) (y8 : Int64) (n : Nat) : gw_S → Int32 → Int32 → Unit × gw_S := gw_L2 (fun self S x10 x11 => (if (64 : Int32) ≤ x11 then (if x10 = 0 then (gw_n (gw_u S 0 15 (S 0 15)) fun S155 => ((), S155)) else (gw_n (gw_u S 0 15 ((S 0 15) + (1 : Int32))) fun S155 => ((), S155))) else (if (lg_cmp ((x11 : Int32).toInt64) y6) < 0 then (self S x10 (x11 + (1 : Int32))) else (if 0 < (lg_cmp ((x11 : Int32).toInt64) y8) then (self S x10 (x11 + (1 : Int32))) else (gw_n (gw_u S 4 (((((2560 : Int32) * (S 0 4)) + ((64 : Int32) * a2)) + x11) : Int32).toNatClampNeg (vp_nar .byte ((a3 : Int32).toInt8.toInt32))) fun S126 => (self S126 (1 : Int32) (x11 + (1 : Int32)))))))) (fun S _ _ => ((), S)) n
set_option maxHeartbeats 4000000 in
set_option maxRecDepth 100000 in
theorem l_Model_line_79 {X : gx_M} {A : Nat → Prop}  (F : gw_F X l prog_8_method_40_code 12 none "StageMachineModel" gTs (gw_rm 2) D gCl (gTys cI cB cC cZ) 20 ad A) (a2 : Int32) (a3 : Int32) (y6 : Int64) (y8 : Int64) (hb2 : vp_in a2 40) : ∀ (n : Nat) (S : gw_S) (x10 x11 : Int32), 0 < n → ((64 : Int32) : Int32).toInt - x11.toInt < (n : Int) → 0 ≤ x11.toInt → rOK S → gw_V X (gw_P D gCl 20 ad (rE ad cI cB cZ)) A 12 gw_rV S 79 [(0, .ref (ad 0)), (2, .int a2), (3, .int a3), (6, .long y6), (8, .long y8), (10, .int x10), (11, .int x11)] [] (fl_Model_line_79 a2 a3 y6 y8 n S x10 x11) := by
  intro n
  induction n with
  | zero => intro S x10 x11 hn hf h0 hf_ok; exact absurd hn (Nat.lt_irrefl 0)
  | succ n ih =>
    intro S x10 x11 hn hf h0 hf_ok
    refine gw_iload (pc := 79) F 6 d_Model_line_79 rfl ?_
    refine gw_bipush (pc := 81) (v := (64 : Int32)) F d_Model_line_81 (by decide) ?_
    refine gw_icmp_geS (pc := 83) (tgt := 136) F d_Model_line_83 (by decide) (fun h83 => ?_) (fun h83 => ?_)
    · refine gw_aload_n (pc := 136) F 0 d_Model_line_136 rfl rfl ?_
      refine gw_iload (pc := 137) F 5 d_Model_line_137 rfl ?_
      refine gw_if_eqS (pc := 139) (tgt := 151) F d_Model_line_139 (by decide) (fun h139 => ?_) (fun h139 => ?_)
      · refine gw_aload_n (pc := 151) F 0 d_Model_line_151 rfl rfl ?_
        refine rg_Model_rows (pc := 152) F tw_422 d_Model_line_152 ?_
        refine rp_Model_rows (pc := 155) F tw_422 d_Model_line_155 ?_
        refine gw_nS (fun S155 E155 => ?_)
        exact gw_vret (pc := 158) F d_Model_line_158
      · refine gw_aload_n (pc := 142) F 0 d_Model_line_142 rfl rfl ?_
        refine rg_Model_rows (pc := 143) F tw_422 d_Model_line_143 ?_
        refine gw_iconst (pc := 146) (v := (1 : Int32)) F d_Model_line_146 (by decide) ?_
        refine gw_iadd (pc := 147) F d_Model_line_147 ?_
        refine gw_goto (pc := 148) (tgt := 155) F d_Model_line_148 (by decide) ?_
        refine rp_Model_rows (pc := 155) F tw_422 d_Model_line_155 ?_
        refine gw_nS (fun S155 E155 => ?_)
        exact gw_vret (pc := 158) F d_Model_line_158
    · refine gw_iload (pc := 86) F 6 d_Model_line_86 rfl ?_
      refine gw_i2l (pc := 88) F d_Model_line_88 ?_
      refine gw_lload (pc := 89) F 3 d_Model_line_89 rfl ?_
      refine gw_lcmp (pc := 91) F d_Model_line_91 ?_
      refine gw_if_ltS (pc := 92) (tgt := 130) F d_Model_line_92 (by decide) (fun h92 => ?_) (fun h92 => ?_)
      · refine gw_iinc (pc := 130) (v := (x11 + (1 : Int32))) (lv' := [(11, .int (x11 + (1 : Int32))), (0, .ref (ad 0)), (2, .int a2), (3, .int a3), (6, .long y6), (8, .long y8), (10, .int x10)]) F 6 d_Model_line_130 rfl (congrArg (HAdd.hAdd x11) (by decide)) (by decide) rfl ?_
        refine gw_goto (pc := 133) (tgt := 79) F d_Model_line_133 (by decide) ?_
        refine gw_lvs (lv' := [(0, .ref (ad 0)), (2, .int a2), (3, .int a3), (6, .long y6), (8, .long y8), (10, .int x10), (11, .int (x11 + (1 : Int32)))]) [1, 2, 3, 4, 5, 6, 0] rfl ?_
        exact ih S x10 (x11 + (1 : Int32)) (gw_stp h83 hf).1 (gw_stp h83 hf).2.1 (gw_stp0 h83 h0) hf_ok
      · refine gw_iload (pc := 95) F 6 d_Model_line_95 rfl ?_
        refine gw_i2l (pc := 97) F d_Model_line_97 ?_
        refine gw_lload (pc := 98) F 4 d_Model_line_98 rfl ?_
        refine gw_lcmp (pc := 100) F d_Model_line_100 ?_
        refine gw_if_gtS (pc := 101) (tgt := 130) F d_Model_line_101 (by decide) (fun h101 => ?_) (fun h101 => ?_)
        · refine gw_iinc (pc := 130) (v := (x11 + (1 : Int32))) (lv' := [(11, .int (x11 + (1 : Int32))), (0, .ref (ad 0)), (2, .int a2), (3, .int a3), (6, .long y6), (8, .long y8), (10, .int x10)]) F 6 d_Model_line_130 rfl (congrArg (HAdd.hAdd x11) (by decide)) (by decide) rfl ?_
          refine gw_goto (pc := 133) (tgt := 79) F d_Model_line_133 (by decide) ?_
          refine gw_lvs (lv' := [(0, .ref (ad 0)), (2, .int a2), (3, .int a3), (6, .long y6), (8, .long y8), (10, .int x10), (11, .int (x11 + (1 : Int32)))]) [1, 2, 3, 4, 5, 6, 0] rfl ?_
          exact ih S x10 (x11 + (1 : Int32)) (gw_stp h83 hf).1 (gw_stp h83 hf).2.1 (gw_stp0 h83 h0) hf_ok
        · refine gw_aload_n (pc := 104) F 0 d_Model_line_104 rfl rfl ?_
          refine rg_Model_pixels (pc := 105) F tw_410 d_Model_line_105 ?_
          refine gw_sipush (pc := 108) (v := (2560 : Int32)) F d_Model_line_108 (by decide) ?_
          refine gw_aload_n (pc := 111) F 0 d_Model_line_111 rfl rfl ?_
          refine rg_Model_working (pc := 112) F tw_411 d_Model_line_112 ?_
          refine gw_imul (pc := 115) F d_Model_line_115 ?_
          refine gw_bipush (pc := 116) (v := (64 : Int32)) F d_Model_line_116 (by decide) ?_
          refine gw_iload_n (pc := 118) F 1 d_Model_line_118 rfl rfl ?_
          refine gw_imul (pc := 119) F d_Model_line_119 ?_
          refine gw_iadd (pc := 120) F d_Model_line_120 ?_
          refine gw_iload (pc := 121) F 6 d_Model_line_121 rfl ?_
          refine gw_iadd (pc := 123) F d_Model_line_123 ?_
          refine gw_iload_n (pc := 124) F 2 d_Model_line_124 rfl rfl ?_
          refine gw_i2b (pc := 125) F d_Model_line_125 ?_
          refine rs_MPix (pc := 126) F (pg_l hf_ok hb2 h83 h0) d_Model_line_126 ?_
          refine gw_nS (fun S126 E126 => ?_)
          refine gw_iconst (pc := 127) (v := (1 : Int32)) F d_Model_line_127 (by decide) ?_
          refine gw_istore (pc := 128) (lv' := [(10, .int (1 : Int32)), (0, .ref (ad 0)), (2, .int a2), (3, .int a3), (6, .long y6), (8, .long y8), (11, .int x11)]) F d_Model_line_128 (by decide) rfl ?_
          refine gw_iinc (pc := 130) (v := (x11 + (1 : Int32))) (lv' := [(11, .int (x11 + (1 : Int32))), (10, .int (1 : Int32)), (0, .ref (ad 0)), (2, .int a2), (3, .int a3), (6, .long y6), (8, .long y8)]) F 6 d_Model_line_130 rfl (congrArg (HAdd.hAdd x11) (by decide)) (by decide) rfl ?_
          refine gw_goto (pc := 133) (tgt := 79) F d_Model_line_133 (by decide) ?_
          refine gw_lvs (lv' := [(0, .ref (ad 0)), (2, .int a2), (3, .int a3), (6, .long y6), (8, .long y8), (10, .int (1 : Int32)), (11, .int (x11 + (1 : Int32)))]) [2, 3, 4, 5, 6, 1, 0] rfl ?_
          exact ih S126 (1 : Int32) (x11 + (1 : Int32)) (gw_stp h83 hf).1 (gw_stp h83 hf).2.1 (gw_stp0 h83 h0) (rOK_c E126 hf_ok (by omega))
noncomputable def f_Model_line   (S : gw_S) (a1 : Int32) (a2 : Int32) (a3 : Int32) : Unit × gw_S := (gw_n ((S 19 ((a1 + (1 : Int32)) : Int32).toNatClampNeg) - (S 19 (a1 : Int32).toNatClampNeg)) fun v15 => gw_n (a2 - (S 19 (a1 : Int32).toNatClampNeg)) fun v25 => gw_b (f_Model_side S (S 18 (a1 : Int32).toNatClampNeg) (S 18 ((a1 + (1 : Int32)) : Int32).toNatClampNeg) v15 v25) fun r45 S45 => gw_b (f_Model_side S45 (S45 17 (a1 : Int32).toNatClampNeg) (S45 17 ((a1 + (1 : Int32)) : Int32).toNatClampNeg) v15 v25) fun r68 S68 => (fl_Model_line_79 a2 a3 r45 r68 (gw_fu (((64 : Int32) : Int32).toInt - ((0 : Int32) : Int32).toInt)) S68 (0 : Int32) (0 : Int32)))
set_option maxHeartbeats 4000000 in
set_option maxRecDepth 100000 in
theorem c_Model_line (hJ : gw_J 20 ad)   (S : gw_S) (a1 : Int32) (a2 : Int32) (a3 : Int32) (hf_ok : rOK S) (hb1 : vp_in a1 15) (hb2 : vp_in a2 40) (hh : ¬ S 19 ((a1 + (1 : Int32)) : Int32).toNatClampNeg = S 19 (a1 : Int32).toNatClampNeg) : gw_M l y_Model_line prog_8_method_40_code 12 none gTs (gw_rm 2) D gCl (gTys cI cB cC cZ) 20 ad (rE ad cI cB cZ) gw_rV [.ref (ad 0), .int a1, .int a2, .int a3] S (f_Model_line S a1 a2 a3) := by
  refine gw_start gTs_ok (plainFor_of_name (by decide)) hJ (Nat.le_of_ble_eq_true rfl) (fun X A F => ?_)
  refine gw_lve (lv' := [(0, .ref (ad 0)), (1, .int a1), (2, .int a2), (3, .int a3)]) rfl ?_
  unfold f_Model_line
  refine gw_aload_n (pc := 0) F 0 d_Model_line_0 rfl rfl ?_
  refine rg_Model_high (pc := 1) F tw_439 d_Model_line_1 ?_
  refine gw_iload_n (pc := 4) F 1 d_Model_line_4 rfl rfl ?_
  refine gw_iconst (pc := 5) (v := (1 : Int32)) F d_Model_line_5 (by decide) ?_
  refine gw_iadd (pc := 6) F d_Model_line_6 ?_
  refine rl_MH (pc := 7) F (gw_in15s hb1) d_Model_line_7 ?_
  refine gw_aload_n (pc := 8) F 0 d_Model_line_8 rfl rfl ?_
  refine rg_Model_high (pc := 9) F tw_439 d_Model_line_9 ?_
  refine gw_iload_n (pc := 12) F 1 d_Model_line_12 rfl rfl ?_
  refine rl_MH (pc := 13) F (gw_in15 hb1) d_Model_line_13 ?_
  refine gw_isub (pc := 14) F d_Model_line_14 ?_
  refine gw_nI (fun v15 e15 => ?_)
  refine gw_istore (pc := 15) (lv' := [(4, .int v15), (0, .ref (ad 0)), (1, .int a1), (2, .int a2), (3, .int a3)]) F d_Model_line_15 (by decide) rfl ?_
  refine gw_iload_n (pc := 17) F 3 d_Model_line_17 rfl rfl ?_
  refine gw_aload_n (pc := 18) F 1 d_Model_line_18 rfl rfl ?_
  refine rg_Model_high (pc := 19) F tw_439 d_Model_line_19 ?_
  refine gw_iload_n (pc := 22) F 2 d_Model_line_22 rfl rfl ?_
  refine rl_MH (pc := 23) F (gw_in15 hb1) d_Model_line_23 ?_
  refine gw_isub (pc := 24) F d_Model_line_24 ?_
  refine gw_nI (fun v25 e25 => ?_)
  refine gw_istore (pc := 25) (lv' := [(5, .int v25), (4, .int v15), (0, .ref (ad 0)), (1, .int a1), (2, .int a2), (3, .int a3)]) F d_Model_line_25 (by decide) rfl ?_
  refine gw_aload_n (pc := 27) F 2 d_Model_line_27 rfl rfl ?_
  refine rg_Model_left (pc := 28) F tw_438 d_Model_line_28 ?_
  refine gw_iload_n (pc := 31) F 3 d_Model_line_31 rfl rfl ?_
  refine rl_ML (pc := 32) F (gw_in15 hb1) d_Model_line_32 ?_
  refine gw_aload_n (pc := 33) F 2 d_Model_line_33 rfl rfl ?_
  refine rg_Model_left (pc := 34) F tw_438 d_Model_line_34 ?_
  refine gw_iload_n (pc := 37) F 3 d_Model_line_37 rfl rfl ?_
  refine gw_iconst (pc := 38) (v := (1 : Int32)) F d_Model_line_38 (by decide) ?_
  refine gw_iadd (pc := 39) F d_Model_line_39 ?_
  refine rl_ML (pc := 40) F (gw_in15s hb1) d_Model_line_40 ?_
  refine gw_iload (pc := 41) F 1 d_Model_line_41 rfl ?_
  refine gw_iload (pc := 43) F 0 d_Model_line_43 rfl ?_
  refine gw_cS (pc := 45) (As := [.int (S 18 (a1 : Int32).toNatClampNeg), .int (S 18 ((a1 + (1 : Int32)) : Int32).toNatClampNeg), .int v15, .int v25]) (rest := []) F (c_Model_side (gw_FJ F) S (S 18 (a1 : Int32).toNatClampNeg) (S 18 ((a1 + (1 : Int32)) : Int32).toNatClampNeg) v15 v25 (rb_h e15 hh)) cw_Model_side cv_Model_side tw_646 rfl (by decide) (by decide) rfl rfl (Nat.le_of_ble_eq_true rfl) d_Model_line_45 (gw_bJ (P := fun r U => rOK U) (po_ok_Model_side S (S 18 (a1 : Int32).toNatClampNeg) (S 18 ((a1 + (1 : Int32)) : Int32).toNatClampNeg) v15 v25 hf_ok (rb_h e15 hh)) (fun r45 S45 p45 => ?_))
  refine gw_lstore (pc := 48) (lv' := [(6, .long r45), (5, .int v25), (4, .int v15), (0, .ref (ad 0)), (1, .int a1), (2, .int a2), (3, .int a3)]) F d_Model_line_48 (by decide) rfl ?_
  refine gw_aload_n (pc := 50) F 3 d_Model_line_50 rfl rfl ?_
  refine rg_Model_right (pc := 51) F tw_437 d_Model_line_51 ?_
  refine gw_iload_n (pc := 54) F 4 d_Model_line_54 rfl rfl ?_
  refine rl_MR (pc := 55) F (gw_in15 hb1) d_Model_line_55 ?_
  refine gw_aload_n (pc := 56) F 3 d_Model_line_56 rfl rfl ?_
  refine rg_Model_right (pc := 57) F tw_437 d_Model_line_57 ?_
  refine gw_iload_n (pc := 60) F 4 d_Model_line_60 rfl rfl ?_
  refine gw_iconst (pc := 61) (v := (1 : Int32)) F d_Model_line_61 (by decide) ?_
  refine gw_iadd (pc := 62) F d_Model_line_62 ?_
  refine rl_MR (pc := 63) F (gw_in15s hb1) d_Model_line_63 ?_
  refine gw_iload (pc := 64) F 2 d_Model_line_64 rfl ?_
  refine gw_iload (pc := 66) F 1 d_Model_line_66 rfl ?_
  refine gw_cS (pc := 68) (As := [.int (S45 17 (a1 : Int32).toNatClampNeg), .int (S45 17 ((a1 + (1 : Int32)) : Int32).toNatClampNeg), .int v15, .int v25]) (rest := []) F (c_Model_side (gw_FJ F) S45 (S45 17 (a1 : Int32).toNatClampNeg) (S45 17 ((a1 + (1 : Int32)) : Int32).toNatClampNeg) v15 v25 (rb_h e15 hh)) cw_Model_side cv_Model_side tw_646 rfl (by decide) (by decide) rfl rfl (Nat.le_of_ble_eq_true rfl) d_Model_line_68 (gw_bJ (P := fun r U => rOK U) (po_ok_Model_side S45 (S45 17 (a1 : Int32).toNatClampNeg) (S45 17 ((a1 + (1 : Int32)) : Int32).toNatClampNeg) v15 v25 p45 (rb_h e15 hh)) (fun r68 S68 p68 => ?_))
  refine gw_lstore (pc := 71) (lv' := [(8, .long r68), (6, .long r45), (5, .int v25), (4, .int v15), (0, .ref (ad 0)), (1, .int a1), (2, .int a2), (3, .int a3)]) F d_Model_line_71 (by decide) rfl ?_
  refine gw_iconst (pc := 73) (v := (0 : Int32)) F d_Model_line_73 (by decide) ?_
  refine gw_istore (pc := 74) (lv' := [(10, .int (0 : Int32)), (8, .long r68), (6, .long r45), (5, .int v25), (4, .int v15), (0, .ref (ad 0)), (1, .int a1), (2, .int a2), (3, .int a3)]) F d_Model_line_74 (by decide) rfl ?_
  refine gw_iconst (pc := 76) (v := (0 : Int32)) F d_Model_line_76 (by decide) ?_
  refine gw_istore (pc := 77) (lv' := [(11, .int (0 : Int32)), (10, .int (0 : Int32)), (8, .long r68), (6, .long r45), (5, .int v25), (4, .int v15), (0, .ref (ad 0)), (1, .int a1), (2, .int a2), (3, .int a3)]) F d_Model_line_77 (by decide) rfl ?_
  refine gw_lvs (lv' := [(0, .ref (ad 0)), (2, .int a2), (3, .int a3), (6, .long r45), (8, .long r68), (10, .int (0 : Int32)), (11, .int (0 : Int32))]) [6, 8, 9, 3, 2, 1, 0] rfl ?_
  exact l_Model_line_79  F a2 a3 r45 r68 hb2 (gw_fu (((64 : Int32) : Int32).toInt - ((0 : Int32) : Int32).toInt)) S68 (0 : Int32) (0 : Int32) (gw_fu_pos _) (gw_fu_lt _) (by decide) p68
set_option maxHeartbeats 4000000 in
set_option maxRecDepth 100000 in
theorem pl_ok_Model_line_79  (a2 : Int32) (a3 : Int32) (y6 : Int64) (y8 : Int64) (hb2 : vp_in a2 40) : ∀ (n : Nat) (S : gw_S) (x10 x11 : Int32), 0 < n → ((64 : Int32) : Int32).toInt - x11.toInt < (n : Int) → 0 ≤ x11.toInt → rOK S → rOK (fl_Model_line_79 a2 a3 y6 y8 n S x10 x11).2 := by
  intro n
  induction n with
  | zero => intro S x10 x11 hn hf h0 hf_ok; exact absurd hn (Nat.lt_irrefl 0)
  | succ n ih =>
    intro S x10 x11 hn hf h0 hf_ok
    refine po_if (Φ := fun p : Unit × gw_S => rOK p.2) (fun h83 => ?_) (fun h83 => ?_)
    · refine po_if (Φ := fun p : Unit × gw_S => rOK p.2) (fun h139 => ?_) (fun h139 => ?_)
      · refine po_n (Φ := fun p : Unit × gw_S => rOK p.2) (fun S155 E155 => ?_)
        exact (rOK_f E155 hf_ok (by omega))
      · refine po_n (Φ := fun p : Unit × gw_S => rOK p.2) (fun S155 E155 => ?_)
        exact (rOK_f E155 hf_ok (by omega))
    · refine po_if (Φ := fun p : Unit × gw_S => rOK p.2) (fun h92 => ?_) (fun h92 => ?_)
      · exact ih S x10 (x11 + (1 : Int32)) (gw_stp h83 hf).1 (gw_stp h83 hf).2.1 (gw_stp0 h83 h0) hf_ok
      · refine po_if (Φ := fun p : Unit × gw_S => rOK p.2) (fun h101 => ?_) (fun h101 => ?_)
        · exact ih S x10 (x11 + (1 : Int32)) (gw_stp h83 hf).1 (gw_stp h83 hf).2.1 (gw_stp0 h83 h0) hf_ok
        · refine po_n (Φ := fun p : Unit × gw_S => rOK p.2) (fun S126 E126 => ?_)
          exact ih S126 (1 : Int32) (x11 + (1 : Int32)) (gw_stp h83 hf).1 (gw_stp h83 hf).2.1 (gw_stp0 h83 h0) (rOK_c E126 hf_ok (by omega))
set_option maxHeartbeats 4000000 in
set_option maxRecDepth 100000 in
theorem po_ok_Model_line   (S : gw_S) (a1 : Int32) (a2 : Int32) (a3 : Int32) (hf_ok : rOK S) (hb1 : vp_in a1 15) (hb2 : vp_in a2 40) (hh : ¬ S 19 ((a1 + (1 : Int32)) : Int32).toNatClampNeg = S 19 (a1 : Int32).toNatClampNeg) : rOK (f_Model_line S a1 a2 a3).2 := by
  unfold f_Model_line
  refine po_n (Φ := fun p : Unit × gw_S => rOK p.2) (fun v15 e15 => ?_)
  refine po_n (Φ := fun p : Unit × gw_S => rOK p.2) (fun v25 e25 => ?_)
  refine po_b (Φ := fun p : Unit × gw_S => rOK p.2) (P := fun r U => rOK U) (po_ok_Model_side S (S 18 (a1 : Int32).toNatClampNeg) (S 18 ((a1 + (1 : Int32)) : Int32).toNatClampNeg) v15 v25 hf_ok (rb_h e15 hh)) (fun r45 S45 p45 => ?_)
  refine po_b (Φ := fun p : Unit × gw_S => rOK p.2) (P := fun r U => rOK U) (po_ok_Model_side S45 (S45 17 (a1 : Int32).toNatClampNeg) (S45 17 ((a1 + (1 : Int32)) : Int32).toNatClampNeg) v15 v25 p45 (rb_h e15 hh)) (fun r68 S68 p68 => ?_)
  exact pl_ok_Model_line_79 a2 a3 r45 r68 hb2 (gw_fu (((64 : Int32) : Int32).toInt - ((0 : Int32) : Int32).toInt)) S68 (0 : Int32) (0 : Int32) (gw_fu_pos _) (gw_fu_lt _) (by decide) p68
set_option maxHeartbeats 4000000 in
set_option maxRecDepth 100000 in
theorem pl_at_Model_line_79  (a2 : Int32) (a3 : Int32) (y6 : Int64) (y8 : Int64) (hb2 : vp_in a2 40) : ∀ (n : Nat) (S : gw_S) (x10 x11 : Int32), 0 < n → ((64 : Int32) : Int32).toInt - x11.toInt < (n : Int) → 0 ≤ x11.toInt → vp_in (S 0 18) 1024 → vp_in ((fl_Model_line_79 a2 a3 y6 y8 n S x10 x11).2 0 18) 1024 := by
  intro n
  induction n with
  | zero => intro S x10 x11 hn hf h0 hf_at; exact absurd hn (Nat.lt_irrefl 0)
  | succ n ih =>
    intro S x10 x11 hn hf h0 hf_at
    refine po_if (Φ := fun p : Unit × gw_S => vp_in (p.2 0 18) 1024) (fun h83 => ?_) (fun h83 => ?_)
    · refine po_if (Φ := fun p : Unit × gw_S => vp_in (p.2 0 18) 1024) (fun h139 => ?_) (fun h139 => ?_)
      · refine po_n (Φ := fun p : Unit × gw_S => vp_in (p.2 0 18) 1024) (fun S155 E155 => ?_)
        exact (rOK_keep (P := fun z => vp_in z 1024) E155 hf_at (by omega))
      · refine po_n (Φ := fun p : Unit × gw_S => vp_in (p.2 0 18) 1024) (fun S155 E155 => ?_)
        exact (rOK_keep (P := fun z => vp_in z 1024) E155 hf_at (by omega))
    · refine po_if (Φ := fun p : Unit × gw_S => vp_in (p.2 0 18) 1024) (fun h92 => ?_) (fun h92 => ?_)
      · exact ih S x10 (x11 + (1 : Int32)) (gw_stp h83 hf).1 (gw_stp h83 hf).2.1 (gw_stp0 h83 h0) hf_at
      · refine po_if (Φ := fun p : Unit × gw_S => vp_in (p.2 0 18) 1024) (fun h101 => ?_) (fun h101 => ?_)
        · exact ih S x10 (x11 + (1 : Int32)) (gw_stp h83 hf).1 (gw_stp h83 hf).2.1 (gw_stp0 h83 h0) hf_at
        · refine po_n (Φ := fun p : Unit × gw_S => vp_in (p.2 0 18) 1024) (fun S126 E126 => ?_)
          exact ih S126 (1 : Int32) (x11 + (1 : Int32)) (gw_stp h83 hf).1 (gw_stp h83 hf).2.1 (gw_stp0 h83 h0) (rOK_keep (P := fun z => vp_in z 1024) E126 hf_at (by omega))
set_option maxHeartbeats 4000000 in
set_option maxRecDepth 100000 in
theorem po_at_Model_line   (S : gw_S) (a1 : Int32) (a2 : Int32) (a3 : Int32) (hf_at : vp_in (S 0 18) 1024) (hb1 : vp_in a1 15) (hb2 : vp_in a2 40) (hh : ¬ S 19 ((a1 + (1 : Int32)) : Int32).toNatClampNeg = S 19 (a1 : Int32).toNatClampNeg) : vp_in ((f_Model_line S a1 a2 a3).2 0 18) 1024 := by
  unfold f_Model_line
  refine po_n (Φ := fun p : Unit × gw_S => vp_in (p.2 0 18) 1024) (fun v15 e15 => ?_)
  refine po_n (Φ := fun p : Unit × gw_S => vp_in (p.2 0 18) 1024) (fun v25 e25 => ?_)
  refine po_b (Φ := fun p : Unit × gw_S => vp_in (p.2 0 18) 1024) (P := fun r U => vp_in (U 0 18) 1024) (po_at_Model_side S (S 18 (a1 : Int32).toNatClampNeg) (S 18 ((a1 + (1 : Int32)) : Int32).toNatClampNeg) v15 v25 hf_at (rb_h e15 hh)) (fun r45 S45 p45 => ?_)
  refine po_b (Φ := fun p : Unit × gw_S => vp_in (p.2 0 18) 1024) (P := fun r U => vp_in (U 0 18) 1024) (po_at_Model_side S45 (S45 17 (a1 : Int32).toNatClampNeg) (S45 17 ((a1 + (1 : Int32)) : Int32).toNatClampNeg) v15 v25 p45 (rb_h e15 hh)) (fun r68 S68 p68 => ?_)
  exact pl_at_Model_line_79 a2 a3 r45 r68 hb2 (gw_fu (((64 : Int32) : Int32).toInt - ((0 : Int32) : Int32).toInt)) S68 (0 : Int32) (0 : Int32) (gw_fu_pos _) (gw_fu_lt _) (by decide) p68
set_option maxHeartbeats 4000000 in
set_option maxRecDepth 100000 in
theorem pl_pz_Model_line_79 {ζ : Int32}  (a2 : Int32) (a3 : Int32) (y6 : Int64) (y8 : Int64) (hb2 : vp_in a2 40) : ∀ (n : Nat) (S : gw_S) (x10 x11 : Int32), 0 < n → ((64 : Int32) : Int32).toInt - x11.toInt < (n : Int) → 0 ≤ x11.toInt → S 0 23 = ζ → (fl_Model_line_79 a2 a3 y6 y8 n S x10 x11).2 0 23 = ζ := by
  intro n
  induction n with
  | zero => intro S x10 x11 hn hf h0 hf_pz; exact absurd hn (Nat.lt_irrefl 0)
  | succ n ih =>
    intro S x10 x11 hn hf h0 hf_pz
    refine po_if (Φ := fun p : Unit × gw_S => p.2 0 23 = ζ) (fun h83 => ?_) (fun h83 => ?_)
    · refine po_if (Φ := fun p : Unit × gw_S => p.2 0 23 = ζ) (fun h139 => ?_) (fun h139 => ?_)
      · refine po_n (Φ := fun p : Unit × gw_S => p.2 0 23 = ζ) (fun S155 E155 => ?_)
        exact (rOK_keep (P := fun z => z = ζ) E155 hf_pz (by omega))
      · refine po_n (Φ := fun p : Unit × gw_S => p.2 0 23 = ζ) (fun S155 E155 => ?_)
        exact (rOK_keep (P := fun z => z = ζ) E155 hf_pz (by omega))
    · refine po_if (Φ := fun p : Unit × gw_S => p.2 0 23 = ζ) (fun h92 => ?_) (fun h92 => ?_)
      · exact ih S x10 (x11 + (1 : Int32)) (gw_stp h83 hf).1 (gw_stp h83 hf).2.1 (gw_stp0 h83 h0) hf_pz
      · refine po_if (Φ := fun p : Unit × gw_S => p.2 0 23 = ζ) (fun h101 => ?_) (fun h101 => ?_)
        · exact ih S x10 (x11 + (1 : Int32)) (gw_stp h83 hf).1 (gw_stp h83 hf).2.1 (gw_stp0 h83 h0) hf_pz
        · refine po_n (Φ := fun p : Unit × gw_S => p.2 0 23 = ζ) (fun S126 E126 => ?_)
          exact ih S126 (1 : Int32) (x11 + (1 : Int32)) (gw_stp h83 hf).1 (gw_stp h83 hf).2.1 (gw_stp0 h83 h0) (rOK_keep (P := fun z => z = ζ) E126 hf_pz (by omega))
set_option maxHeartbeats 4000000 in
set_option maxRecDepth 100000 in
theorem po_pz_Model_line {ζ : Int32}   (S : gw_S) (a1 : Int32) (a2 : Int32) (a3 : Int32) (hf_pz : S 0 23 = ζ) (hb1 : vp_in a1 15) (hb2 : vp_in a2 40) (hh : ¬ S 19 ((a1 + (1 : Int32)) : Int32).toNatClampNeg = S 19 (a1 : Int32).toNatClampNeg) : (f_Model_line S a1 a2 a3).2 0 23 = ζ := by
  unfold f_Model_line
  refine po_n (Φ := fun p : Unit × gw_S => p.2 0 23 = ζ) (fun v15 e15 => ?_)
  refine po_n (Φ := fun p : Unit × gw_S => p.2 0 23 = ζ) (fun v25 e25 => ?_)
  refine po_b (Φ := fun p : Unit × gw_S => p.2 0 23 = ζ) (P := fun r U => U 0 23 = ζ) (po_pz_Model_side S (S 18 (a1 : Int32).toNatClampNeg) (S 18 ((a1 + (1 : Int32)) : Int32).toNatClampNeg) v15 v25 hf_pz (rb_h e15 hh)) (fun r45 S45 p45 => ?_)
  refine po_b (Φ := fun p : Unit × gw_S => p.2 0 23 = ζ) (P := fun r U => U 0 23 = ζ) (po_pz_Model_side S45 (S45 17 (a1 : Int32).toNatClampNeg) (S45 17 ((a1 + (1 : Int32)) : Int32).toNatClampNeg) v15 v25 p45 (rb_h e15 hh)) (fun r68 S68 p68 => ?_)
  exact pl_pz_Model_line_79 a2 a3 r45 r68 hb2 (gw_fu (((64 : Int32) : Int32).toInt - ((0 : Int32) : Int32).toInt)) S68 (0 : Int32) (0 : Int32) (gw_fu_pos _) (gw_fu_lt _) (by decide) p68
set_option maxHeartbeats 4000000 in
set_option maxRecDepth 100000 in
theorem pl_dz_Model_line_79 {δ : Int32}  (a2 : Int32) (a3 : Int32) (y6 : Int64) (y8 : Int64) (hb2 : vp_in a2 40) : ∀ (n : Nat) (S : gw_S) (x10 x11 : Int32), 0 < n → ((64 : Int32) : Int32).toInt - x11.toInt < (n : Int) → 0 ≤ x11.toInt → S 0 21 = δ → (fl_Model_line_79 a2 a3 y6 y8 n S x10 x11).2 0 21 = δ := by
  intro n
  induction n with
  | zero => intro S x10 x11 hn hf h0 hf_dz; exact absurd hn (Nat.lt_irrefl 0)
  | succ n ih =>
    intro S x10 x11 hn hf h0 hf_dz
    refine po_if (Φ := fun p : Unit × gw_S => p.2 0 21 = δ) (fun h83 => ?_) (fun h83 => ?_)
    · refine po_if (Φ := fun p : Unit × gw_S => p.2 0 21 = δ) (fun h139 => ?_) (fun h139 => ?_)
      · refine po_n (Φ := fun p : Unit × gw_S => p.2 0 21 = δ) (fun S155 E155 => ?_)
        exact (rOK_keep (P := fun z => z = δ) E155 hf_dz (by omega))
      · refine po_n (Φ := fun p : Unit × gw_S => p.2 0 21 = δ) (fun S155 E155 => ?_)
        exact (rOK_keep (P := fun z => z = δ) E155 hf_dz (by omega))
    · refine po_if (Φ := fun p : Unit × gw_S => p.2 0 21 = δ) (fun h92 => ?_) (fun h92 => ?_)
      · exact ih S x10 (x11 + (1 : Int32)) (gw_stp h83 hf).1 (gw_stp h83 hf).2.1 (gw_stp0 h83 h0) hf_dz
      · refine po_if (Φ := fun p : Unit × gw_S => p.2 0 21 = δ) (fun h101 => ?_) (fun h101 => ?_)
        · exact ih S x10 (x11 + (1 : Int32)) (gw_stp h83 hf).1 (gw_stp h83 hf).2.1 (gw_stp0 h83 h0) hf_dz
        · refine po_n (Φ := fun p : Unit × gw_S => p.2 0 21 = δ) (fun S126 E126 => ?_)
          exact ih S126 (1 : Int32) (x11 + (1 : Int32)) (gw_stp h83 hf).1 (gw_stp h83 hf).2.1 (gw_stp0 h83 h0) (rOK_keep (P := fun z => z = δ) E126 hf_dz (by omega))
set_option maxHeartbeats 4000000 in
set_option maxRecDepth 100000 in
theorem po_dz_Model_line {δ : Int32}   (S : gw_S) (a1 : Int32) (a2 : Int32) (a3 : Int32) (hf_dz : S 0 21 = δ) (hb1 : vp_in a1 15) (hb2 : vp_in a2 40) (hh : ¬ S 19 ((a1 + (1 : Int32)) : Int32).toNatClampNeg = S 19 (a1 : Int32).toNatClampNeg) : (f_Model_line S a1 a2 a3).2 0 21 = δ := by
  unfold f_Model_line
  refine po_n (Φ := fun p : Unit × gw_S => p.2 0 21 = δ) (fun v15 e15 => ?_)
  refine po_n (Φ := fun p : Unit × gw_S => p.2 0 21 = δ) (fun v25 e25 => ?_)
  refine po_b (Φ := fun p : Unit × gw_S => p.2 0 21 = δ) (P := fun r U => U 0 21 = δ) (po_dz_Model_side S (S 18 (a1 : Int32).toNatClampNeg) (S 18 ((a1 + (1 : Int32)) : Int32).toNatClampNeg) v15 v25 hf_dz (rb_h e15 hh)) (fun r45 S45 p45 => ?_)
  refine po_b (Φ := fun p : Unit × gw_S => p.2 0 21 = δ) (P := fun r U => U 0 21 = δ) (po_dz_Model_side S45 (S45 17 (a1 : Int32).toNatClampNeg) (S45 17 ((a1 + (1 : Int32)) : Int32).toNatClampNeg) v15 v25 p45 (rb_h e15 hh)) (fun r68 S68 p68 => ?_)
  exact pl_dz_Model_line_79 a2 a3 r45 r68 hb2 (gw_fu (((64 : Int32) : Int32).toInt - ((0 : Int32) : Int32).toInt)) S68 (0 : Int32) (0 : Int32) (gw_fu_pos _) (gw_fu_lt _) (by decide) p68
set_option maxHeartbeats 4000000 in
set_option maxRecDepth 100000 in
theorem pl_wz_Model_line_79 {ω : Nat → Int32}  (a2 : Int32) (a3 : Int32) (y6 : Int64) (y8 : Int64) (hb2 : vp_in a2 40) : ∀ (n : Nat) (S : gw_S) (x10 x11 : Int32), 0 < n → ((64 : Int32) : Int32).toInt - x11.toInt < (n : Int) → 0 ≤ x11.toInt → S 16 = ω → (fl_Model_line_79 a2 a3 y6 y8 n S x10 x11).2 16 = ω := by
  intro n
  induction n with
  | zero => intro S x10 x11 hn hf h0 hf_wz; exact absurd hn (Nat.lt_irrefl 0)
  | succ n ih =>
    intro S x10 x11 hn hf h0 hf_wz
    refine po_if (Φ := fun p : Unit × gw_S => p.2 16 = ω) (fun h83 => ?_) (fun h83 => ?_)
    · refine po_if (Φ := fun p : Unit × gw_S => p.2 16 = ω) (fun h139 => ?_) (fun h139 => ?_)
      · refine po_n (Φ := fun p : Unit × gw_S => p.2 16 = ω) (fun S155 E155 => ?_)
        exact (rWk E155 hf_wz (by omega))
      · refine po_n (Φ := fun p : Unit × gw_S => p.2 16 = ω) (fun S155 E155 => ?_)
        exact (rWk E155 hf_wz (by omega))
    · refine po_if (Φ := fun p : Unit × gw_S => p.2 16 = ω) (fun h92 => ?_) (fun h92 => ?_)
      · exact ih S x10 (x11 + (1 : Int32)) (gw_stp h83 hf).1 (gw_stp h83 hf).2.1 (gw_stp0 h83 h0) hf_wz
      · refine po_if (Φ := fun p : Unit × gw_S => p.2 16 = ω) (fun h101 => ?_) (fun h101 => ?_)
        · exact ih S x10 (x11 + (1 : Int32)) (gw_stp h83 hf).1 (gw_stp h83 hf).2.1 (gw_stp0 h83 h0) hf_wz
        · refine po_n (Φ := fun p : Unit × gw_S => p.2 16 = ω) (fun S126 E126 => ?_)
          exact ih S126 (1 : Int32) (x11 + (1 : Int32)) (gw_stp h83 hf).1 (gw_stp h83 hf).2.1 (gw_stp0 h83 h0) (rWk E126 hf_wz (by omega))
set_option maxHeartbeats 4000000 in
set_option maxRecDepth 100000 in
theorem po_wz_Model_line {ω : Nat → Int32}   (S : gw_S) (a1 : Int32) (a2 : Int32) (a3 : Int32) (hf_wz : S 16 = ω) (hb1 : vp_in a1 15) (hb2 : vp_in a2 40) (hh : ¬ S 19 ((a1 + (1 : Int32)) : Int32).toNatClampNeg = S 19 (a1 : Int32).toNatClampNeg) : (f_Model_line S a1 a2 a3).2 16 = ω := by
  unfold f_Model_line
  refine po_n (Φ := fun p : Unit × gw_S => p.2 16 = ω) (fun v15 e15 => ?_)
  refine po_n (Φ := fun p : Unit × gw_S => p.2 16 = ω) (fun v25 e25 => ?_)
  refine po_b (Φ := fun p : Unit × gw_S => p.2 16 = ω) (P := fun r U => U 16 = ω) (po_wz_Model_side S (S 18 (a1 : Int32).toNatClampNeg) (S 18 ((a1 + (1 : Int32)) : Int32).toNatClampNeg) v15 v25 hf_wz (rb_h e15 hh)) (fun r45 S45 p45 => ?_)
  refine po_b (Φ := fun p : Unit × gw_S => p.2 16 = ω) (P := fun r U => U 16 = ω) (po_wz_Model_side S45 (S45 17 (a1 : Int32).toNatClampNeg) (S45 17 ((a1 + (1 : Int32)) : Int32).toNatClampNeg) v15 v25 p45 (rb_h e15 hh)) (fun r68 S68 p68 => ?_)
  exact pl_wz_Model_line_79 a2 a3 r45 r68 hb2 (gw_fu (((64 : Int32) : Int32).toInt - ((0 : Int32) : Int32).toInt)) S68 (0 : Int32) (0 : Int32) (gw_fu_pos _) (gw_fu_lt _) (by decide) p68
set_option maxHeartbeats 4000000 in
set_option maxRecDepth 100000 in
theorem pl_st_Model_line_79  (a2 : Int32) (a3 : Int32) (y6 : Int64) (y8 : Int64) (hb2 : vp_in a2 40) : ∀ (n : Nat) (S : gw_S) (x10 x11 : Int32), 0 < n → ((64 : Int32) : Int32).toInt - x11.toInt < (n : Int) → 0 ≤ x11.toInt → rST S → rST (fl_Model_line_79 a2 a3 y6 y8 n S x10 x11).2 := by
  intro n
  induction n with
  | zero => intro S x10 x11 hn hf h0 hf_st; exact absurd hn (Nat.lt_irrefl 0)
  | succ n ih =>
    intro S x10 x11 hn hf h0 hf_st
    refine po_if (Φ := fun p : Unit × gw_S => rST p.2) (fun h83 => ?_) (fun h83 => ?_)
    · refine po_if (Φ := fun p : Unit × gw_S => rST p.2) (fun h139 => ?_) (fun h139 => ?_)
      · refine po_n (Φ := fun p : Unit × gw_S => rST p.2) (fun S155 E155 => ?_)
        exact (rSTk E155 hf_st (by omega) (by omega))
      · refine po_n (Φ := fun p : Unit × gw_S => rST p.2) (fun S155 E155 => ?_)
        exact (rSTk E155 hf_st (by omega) (by omega))
    · refine po_if (Φ := fun p : Unit × gw_S => rST p.2) (fun h92 => ?_) (fun h92 => ?_)
      · exact ih S x10 (x11 + (1 : Int32)) (gw_stp h83 hf).1 (gw_stp h83 hf).2.1 (gw_stp0 h83 h0) hf_st
      · refine po_if (Φ := fun p : Unit × gw_S => rST p.2) (fun h101 => ?_) (fun h101 => ?_)
        · exact ih S x10 (x11 + (1 : Int32)) (gw_stp h83 hf).1 (gw_stp h83 hf).2.1 (gw_stp0 h83 h0) hf_st
        · refine po_n (Φ := fun p : Unit × gw_S => rST p.2) (fun S126 E126 => ?_)
          exact ih S126 (1 : Int32) (x11 + (1 : Int32)) (gw_stp h83 hf).1 (gw_stp h83 hf).2.1 (gw_stp0 h83 h0) (rSTk E126 hf_st (by omega) (by omega))
set_option maxHeartbeats 4000000 in
set_option maxRecDepth 100000 in
theorem po_st_Model_line   (S : gw_S) (a1 : Int32) (a2 : Int32) (a3 : Int32) (hf_st : rST S) (hb1 : vp_in a1 15) (hb2 : vp_in a2 40) (hh : ¬ S 19 ((a1 + (1 : Int32)) : Int32).toNatClampNeg = S 19 (a1 : Int32).toNatClampNeg) : rST (f_Model_line S a1 a2 a3).2 := by
  unfold f_Model_line
  refine po_n (Φ := fun p : Unit × gw_S => rST p.2) (fun v15 e15 => ?_)
  refine po_n (Φ := fun p : Unit × gw_S => rST p.2) (fun v25 e25 => ?_)
  refine po_b (Φ := fun p : Unit × gw_S => rST p.2) (P := fun r U => rST U) (po_st_Model_side S (S 18 (a1 : Int32).toNatClampNeg) (S 18 ((a1 + (1 : Int32)) : Int32).toNatClampNeg) v15 v25 hf_st (rb_h e15 hh)) (fun r45 S45 p45 => ?_)
  refine po_b (Φ := fun p : Unit × gw_S => rST p.2) (P := fun r U => rST U) (po_st_Model_side S45 (S45 17 (a1 : Int32).toNatClampNeg) (S45 17 ((a1 + (1 : Int32)) : Int32).toNatClampNeg) v15 v25 p45 (rb_h e15 hh)) (fun r68 S68 p68 => ?_)
  exact pl_st_Model_line_79 a2 a3 r45 r68 hb2 (gw_fu (((64 : Int32) : Int32).toInt - ((0 : Int32) : Int32).toInt)) S68 (0 : Int32) (0 : Int32) (gw_fu_pos _) (gw_fu_lt _) (by decide) p68
set_option maxHeartbeats 4000000 in
set_option maxRecDepth 100000 in
theorem pl_nz_Model_line_79 {ν : Int32}  (a2 : Int32) (a3 : Int32) (y6 : Int64) (y8 : Int64) (hb2 : vp_in a2 40) : ∀ (n : Nat) (S : gw_S) (x10 x11 : Int32), 0 < n → ((64 : Int32) : Int32).toInt - x11.toInt < (n : Int) → 0 ≤ x11.toInt → S 0 14 = ν → (fl_Model_line_79 a2 a3 y6 y8 n S x10 x11).2 0 14 = ν := by
  intro n
  induction n with
  | zero => intro S x10 x11 hn hf h0 hf_nz; exact absurd hn (Nat.lt_irrefl 0)
  | succ n ih =>
    intro S x10 x11 hn hf h0 hf_nz
    refine po_if (Φ := fun p : Unit × gw_S => p.2 0 14 = ν) (fun h83 => ?_) (fun h83 => ?_)
    · refine po_if (Φ := fun p : Unit × gw_S => p.2 0 14 = ν) (fun h139 => ?_) (fun h139 => ?_)
      · refine po_n (Φ := fun p : Unit × gw_S => p.2 0 14 = ν) (fun S155 E155 => ?_)
        exact (rOK_keep (P := fun z => z = ν) E155 hf_nz (by omega))
      · refine po_n (Φ := fun p : Unit × gw_S => p.2 0 14 = ν) (fun S155 E155 => ?_)
        exact (rOK_keep (P := fun z => z = ν) E155 hf_nz (by omega))
    · refine po_if (Φ := fun p : Unit × gw_S => p.2 0 14 = ν) (fun h92 => ?_) (fun h92 => ?_)
      · exact ih S x10 (x11 + (1 : Int32)) (gw_stp h83 hf).1 (gw_stp h83 hf).2.1 (gw_stp0 h83 h0) hf_nz
      · refine po_if (Φ := fun p : Unit × gw_S => p.2 0 14 = ν) (fun h101 => ?_) (fun h101 => ?_)
        · exact ih S x10 (x11 + (1 : Int32)) (gw_stp h83 hf).1 (gw_stp h83 hf).2.1 (gw_stp0 h83 h0) hf_nz
        · refine po_n (Φ := fun p : Unit × gw_S => p.2 0 14 = ν) (fun S126 E126 => ?_)
          exact ih S126 (1 : Int32) (x11 + (1 : Int32)) (gw_stp h83 hf).1 (gw_stp h83 hf).2.1 (gw_stp0 h83 h0) (rOK_keep (P := fun z => z = ν) E126 hf_nz (by omega))
set_option maxHeartbeats 4000000 in
set_option maxRecDepth 100000 in
theorem po_nz_Model_line {ν : Int32}   (S : gw_S) (a1 : Int32) (a2 : Int32) (a3 : Int32) (hf_nz : S 0 14 = ν) (hb1 : vp_in a1 15) (hb2 : vp_in a2 40) (hh : ¬ S 19 ((a1 + (1 : Int32)) : Int32).toNatClampNeg = S 19 (a1 : Int32).toNatClampNeg) : (f_Model_line S a1 a2 a3).2 0 14 = ν := by
  unfold f_Model_line
  refine po_n (Φ := fun p : Unit × gw_S => p.2 0 14 = ν) (fun v15 e15 => ?_)
  refine po_n (Φ := fun p : Unit × gw_S => p.2 0 14 = ν) (fun v25 e25 => ?_)
  refine po_b (Φ := fun p : Unit × gw_S => p.2 0 14 = ν) (P := fun r U => U 0 14 = ν) (po_nz_Model_side S (S 18 (a1 : Int32).toNatClampNeg) (S 18 ((a1 + (1 : Int32)) : Int32).toNatClampNeg) v15 v25 hf_nz (rb_h e15 hh)) (fun r45 S45 p45 => ?_)
  refine po_b (Φ := fun p : Unit × gw_S => p.2 0 14 = ν) (P := fun r U => U 0 14 = ν) (po_nz_Model_side S45 (S45 17 (a1 : Int32).toNatClampNeg) (S45 17 ((a1 + (1 : Int32)) : Int32).toNatClampNeg) v15 v25 p45 (rb_h e15 hh)) (fun r68 S68 p68 => ?_)
  exact pl_nz_Model_line_79 a2 a3 r45 r68 hb2 (gw_fu (((64 : Int32) : Int32).toInt - ((0 : Int32) : Int32).toInt)) S68 (0 : Int32) (0 : Int32) (gw_fu_pos _) (gw_fu_lt _) (by decide) p68
end
