section
variable {l : Launch} {D : va_G} {cI cB cC cZ : ClassId} {ad : Nat → Nat}
noncomputable def fl_Model_group_143   (y7 : Int32) (y8 : Int32) (n : Nat) : gw_S → Int32 → Unit × gw_S := gw_L1 (fun self S x9 => (if (y7 / (2 : Int32)) ≤ x9 then (((), S)) else (gw_b (f_Model_swap S (y8 + x9) (((y8 + y7) - (1 : Int32)) - x9)) fun _ S168 => (self S168 (x9 + (1 : Int32)))))) (fun S _ => ((), S)) n
set_option maxHeartbeats 4000000 in
set_option maxRecDepth 100000 in
theorem l_Model_group_143 {X : gx_M} {A : Nat → Prop}  (F : gw_F X l prog_8_method_36_code 15 none "StageMachineModel" gTs (gw_rm 2) D gCl (gTys cI cB cC cZ) 20 ad A) (y7 : Int32) (y8 : Int32) (hl7 : vp_in y7 16) (h8 : 0 ≤ y8.toInt ∧ y8.toInt ≤ 75) : ∀ (n : Nat) (S : gw_S) (x9 : Int32), 0 < n → ((y7 / (2 : Int32)) : Int32).toInt - x9.toInt < (n : Int) → 0 ≤ x9.toInt → rOK S → gw_V X (gw_P D gCl 20 ad (rE ad cI cB cZ)) A 15 gw_rV S 143 [(0, .ref (ad 0)), (7, .int y7), (8, .int y8), (9, .int x9)] [] (fl_Model_group_143 y7 y8 n S x9) := by
  intro n
  induction n with
  | zero => intro S x9 hn hf h0 hf_ok; exact absurd hn (Nat.lt_irrefl 0)
  | succ n ih =>
    intro S x9 hn hf h0 hf_ok
    refine gw_iload (pc := 143) F 3 d_Model_group_143 rfl ?_
    refine gw_iload (pc := 145) F 1 d_Model_group_145 rfl ?_
    refine gw_iconst (pc := 147) (v := (2 : Int32)) F d_Model_group_147 (by decide) ?_
    refine gw_idiv (pc := 148) F d_Model_group_148 (by decide) ?_
    refine gw_icmp_geS (pc := 149) (tgt := 177) F d_Model_group_149 (by decide) (fun h149 => ?_) (fun h149 => ?_)
    · exact gw_vret (pc := 177) F d_Model_group_177
    · refine gw_aload_n (pc := 152) F 0 d_Model_group_152 rfl rfl ?_
      refine gw_iload (pc := 153) F 2 d_Model_group_153 rfl ?_
      refine gw_iload (pc := 155) F 3 d_Model_group_155 rfl ?_
      refine gw_iadd (pc := 157) F d_Model_group_157 ?_
      refine gw_iload (pc := 158) F 2 d_Model_group_158 rfl ?_
      refine gw_iload (pc := 160) F 1 d_Model_group_160 rfl ?_
      refine gw_iadd (pc := 162) F d_Model_group_162 ?_
      refine gw_iconst (pc := 163) (v := (1 : Int32)) F d_Model_group_163 (by decide) ?_
      refine gw_isub (pc := 164) F d_Model_group_164 ?_
      refine gw_iload (pc := 165) F 3 d_Model_group_165 rfl ?_
      refine gw_isub (pc := 167) F d_Model_group_167 ?_
      refine gw_cV (pc := 168) (As := [.int (y8 + x9), .int (((y8 + y7) - (1 : Int32)) - x9)]) (rest := []) F (c_Model_swap (gw_FJ F) S (y8 + x9) (((y8 + y7) - (1 : Int32)) - x9) (rb_s1 h8 hl7 h149 h0) (rb_s2 h8 hl7 h149 h0)) cw_Model_swap cv_Model_swap tw_655 rfl (by decide) (by decide) (by decide) rE_Model rfl rfl rfl rfl (Nat.le_of_ble_eq_true rfl) d_Model_group_168 (gw_bV (P := fun _ U => rOK U) (po_ok_Model_swap S (y8 + x9) (((y8 + y7) - (1 : Int32)) - x9) hf_ok (rb_s1 h8 hl7 h149 h0) (rb_s2 h8 hl7 h149 h0)) (fun _ S168 p168 => ?_))
      refine gw_iinc (pc := 171) (v := (x9 + (1 : Int32))) (lv' := [(9, .int (x9 + (1 : Int32))), (0, .ref (ad 0)), (7, .int y7), (8, .int y8)]) F 3 d_Model_group_171 rfl (congrArg (HAdd.hAdd x9) (by decide)) (by decide) rfl ?_
      refine gw_goto (pc := 174) (tgt := 143) F d_Model_group_174 (by decide) ?_
      refine gw_lvs (lv' := [(0, .ref (ad 0)), (7, .int y7), (8, .int y8), (9, .int (x9 + (1 : Int32)))]) [1, 2, 3, 0] rfl ?_
      exact ih S168 (x9 + (1 : Int32)) (gw_stp h149 hf).1 (gw_stp h149 hf).2.1 (gw_stp0 h149 h0) p168
noncomputable def fl_Model_group_42   (a3 : Int32) (a4 : Int32) (y5 : Int32) (y6 : Int32) (y7 : Int32) (y8 : Int32) (n : Nat) : gw_S → Int32 → Unit × gw_S := gw_L1 (fun self S x9 => (if y7 ≤ x9 then (fl_Model_group_143 y7 y8 (gw_fu (((y7 / (2 : Int32)) : Int32).toInt - ((0 : Int32) : Int32).toInt)) S (0 : Int32)) else (gw_b (f_Model_read S) fun r50 S50 => gw_b (f_Model_read S50) fun r61 S61 => gw_n ((r50 <<< ((8 : Int32) &&& 31)) ||| r61) fun v65 => gw_b (f_Model_read S61) fun r71 S71 => gw_b (f_Model_scaled S71 r71) fun r74 S74 => gw_n (y5 + r74) fun v78 => gw_b (f_Model_read S74) fun r84 S84 => gw_b (f_Model_scaled S84 r84) fun r87 S87 => gw_n (y6 + r87) fun v91 => if v65 ≤ (32767 : Int32) then (gw_b (f_Model_lay S87 (v65 &&& (1023 : Int32)) v78 v91 a3 (a4 + (1 : Int32))) fun _ S131 => (self S131 (x9 + (1 : Int32)))) else (gw_b (f_Model_read S87) fun r102 S102 => gw_n (r102 &&& (15 : Int32)) fun v112 => gw_b (f_Model_lay S102 (v65 &&& (1023 : Int32)) v78 v91 v112 (a4 + (1 : Int32))) fun _ S131 => (self S131 (x9 + (1 : Int32))))))) (fun S _ => ((), S)) n
set_option maxHeartbeats 4000000 in
set_option maxRecDepth 100000 in
theorem l_Model_group_42 {X : gx_M} {A : Nat → Prop}  (F : gw_F X l prog_8_method_36_code 15 none "StageMachineModel" gTs (gw_rm 2) D gCl (gTys cI cB cC cZ) 20 ad A) (a3 : Int32) (a4 : Int32) (y5 : Int32) (y6 : Int32) (y7 : Int32) (y8 : Int32) (hl7 : vp_in y7 16) (h8 : 0 ≤ y8.toInt ∧ y8.toInt ≤ 75) (hs8 : y8.toInt ≤ 15 * a4.toInt ∧ 0 ≤ a4.toInt ∧ a4.toInt ≤ 4) : ∀ (n : Nat) (S : gw_S) (x9 : Int32), 0 < n → (y7 : Int32).toInt - x9.toInt < (n : Int) → 0 ≤ x9.toInt → rOK S → S 0 23 = y8 + x9 → gw_V X (gw_P D gCl 20 ad (rE ad cI cB cZ)) A 15 gw_rV S 42 [(0, .ref (ad 0)), (3, .int a3), (4, .int a4), (5, .int y5), (6, .int y6), (7, .int y7), (8, .int y8), (9, .int x9)] [] (fl_Model_group_42 a3 a4 y5 y6 y7 y8 n S x9) := by
  intro n
  induction n with
  | zero => intro S x9 hn hf h0 hf_ok hf_pz; exact absurd hn (Nat.lt_irrefl 0)
  | succ n ih =>
    intro S x9 hn hf h0 hf_ok hf_pz
    refine gw_iload (pc := 42) F 7 d_Model_group_42 rfl ?_
    refine gw_iload (pc := 44) F 5 d_Model_group_44 rfl ?_
    refine gw_icmp_geS (pc := 46) (tgt := 140) F d_Model_group_46 (by decide) (fun h46 => ?_) (fun h46 => ?_)
    · refine gw_iconst (pc := 140) (v := (0 : Int32)) F d_Model_group_140 (by decide) ?_
      refine gw_istore (pc := 141) (lv' := [(9, .int (0 : Int32)), (0, .ref (ad 0)), (3, .int a3), (4, .int a4), (5, .int y5), (6, .int y6), (7, .int y7), (8, .int y8)]) F d_Model_group_141 (by decide) rfl ?_
      refine gw_lvs (lv' := [(0, .ref (ad 0)), (7, .int y7), (8, .int y8), (9, .int (0 : Int32))]) [1, 6, 7, 0] rfl ?_
      exact l_Model_group_143  F y7 y8 hl7 h8 (gw_fu (((y7 / (2 : Int32)) : Int32).toInt - ((0 : Int32) : Int32).toInt)) S (0 : Int32) (gw_fu_pos _) (gw_fu_lt _) (by decide) hf_ok
    · refine gw_aload_n (pc := 49) F 0 d_Model_group_49 rfl rfl ?_
      refine gw_cV (pc := 50) (As := []) (rest := []) F (c_Model_read (gw_FJ F) S hf_ok) cw_Model_read cv_Model_read tw_625 rfl (by decide) (by decide) (by decide) rE_Model rfl rfl rfl rfl (Nat.le_of_ble_eq_true rfl) d_Model_group_50 (gw_bI (P := fun r U => rOK U ∧ U 0 23 = (y8 + x9)) ⟨(po_ok_Model_read S hf_ok), (po_pz_Model_read S hf_pz)⟩ (fun r50 S50 p50 => ?_))
      refine gw_istore (pc := 53) (lv' := [(10, .int r50), (0, .ref (ad 0)), (3, .int a3), (4, .int a4), (5, .int y5), (6, .int y6), (7, .int y7), (8, .int y8), (9, .int x9)]) F d_Model_group_53 (by decide) rfl ?_
      refine gw_iload (pc := 55) F 0 d_Model_group_55 rfl ?_
      refine gw_bipush (pc := 57) (v := (8 : Int32)) F d_Model_group_57 (by decide) ?_
      refine gw_ishl (pc := 59) F d_Model_group_59 ?_
      refine gw_aload_n (pc := 60) F 1 d_Model_group_60 rfl rfl ?_
      refine gw_cV (pc := 61) (As := []) (rest := [.int (r50 <<< ((8 : Int32) &&& 31))]) F (c_Model_read (gw_FJ F) S50 p50.1) cw_Model_read cv_Model_read tw_625 rfl (by decide) (by decide) (by decide) rE_Model rfl rfl rfl rfl (Nat.le_of_ble_eq_true rfl) d_Model_group_61 (gw_bI (P := fun r U => rOK U ∧ U 0 23 = (y8 + x9)) ⟨(po_ok_Model_read S50 p50.1), (po_pz_Model_read S50 p50.2)⟩ (fun r61 S61 p61 => ?_))
      refine gw_ior (pc := 64) F d_Model_group_64 ?_
      refine gw_nI (fun v65 e65 => ?_)
      refine gw_istore (pc := 65) (lv' := [(11, .int v65), (10, .int r50), (0, .ref (ad 0)), (3, .int a3), (4, .int a4), (5, .int y5), (6, .int y6), (7, .int y7), (8, .int y8), (9, .int x9)]) F d_Model_group_65 (by decide) rfl ?_
      refine gw_iload (pc := 67) F 5 d_Model_group_67 rfl ?_
      refine gw_aload_n (pc := 69) F 2 d_Model_group_69 rfl rfl ?_
      refine gw_aload_n (pc := 70) F 2 d_Model_group_70 rfl rfl ?_
      refine gw_cV (pc := 71) (As := []) (rest := [.ref (ad 0), .int y5]) F (c_Model_read (gw_FJ F) S61 p61.1) cw_Model_read cv_Model_read tw_625 rfl (by decide) (by decide) (by decide) rE_Model rfl rfl rfl rfl (Nat.le_of_ble_eq_true rfl) d_Model_group_71 (gw_bI (P := fun r U => rOK U ∧ U 0 23 = (y8 + x9)) ⟨(po_ok_Model_read S61 p61.1), (po_pz_Model_read S61 p61.2)⟩ (fun r71 S71 p71 => ?_))
      refine gw_cV (pc := 74) (As := [.int r71]) (rest := [.int y5]) F (c_Model_scaled (gw_FJ F) S71 r71) cw_Model_scaled cv_Model_scaled tw_633 rfl (by decide) (by decide) (by decide) rE_Model rfl rfl rfl rfl (Nat.le_of_ble_eq_true rfl) d_Model_group_74 (gw_bI (P := fun r U => rOK U ∧ U 0 23 = (y8 + x9)) ⟨(po_ok_Model_scaled S71 r71 p71.1), (po_pz_Model_scaled S71 r71 p71.2)⟩ (fun r74 S74 p74 => ?_))
      refine gw_iadd (pc := 77) F d_Model_group_77 ?_
      refine gw_nI (fun v78 e78 => ?_)
      refine gw_istore (pc := 78) (lv' := [(12, .int v78), (11, .int v65), (10, .int r50), (0, .ref (ad 0)), (3, .int a3), (4, .int a4), (5, .int y5), (6, .int y6), (7, .int y7), (8, .int y8), (9, .int x9)]) F d_Model_group_78 (by decide) rfl ?_
      refine gw_iload (pc := 80) F 7 d_Model_group_80 rfl ?_
      refine gw_aload_n (pc := 82) F 3 d_Model_group_82 rfl rfl ?_
      refine gw_aload_n (pc := 83) F 3 d_Model_group_83 rfl rfl ?_
      refine gw_cV (pc := 84) (As := []) (rest := [.ref (ad 0), .int y6]) F (c_Model_read (gw_FJ F) S74 p74.1) cw_Model_read cv_Model_read tw_625 rfl (by decide) (by decide) (by decide) rE_Model rfl rfl rfl rfl (Nat.le_of_ble_eq_true rfl) d_Model_group_84 (gw_bI (P := fun r U => rOK U ∧ U 0 23 = (y8 + x9)) ⟨(po_ok_Model_read S74 p74.1), (po_pz_Model_read S74 p74.2)⟩ (fun r84 S84 p84 => ?_))
      refine gw_cV (pc := 87) (As := [.int r84]) (rest := [.int y6]) F (c_Model_scaled (gw_FJ F) S84 r84) cw_Model_scaled cv_Model_scaled tw_633 rfl (by decide) (by decide) (by decide) rE_Model rfl rfl rfl rfl (Nat.le_of_ble_eq_true rfl) d_Model_group_87 (gw_bI (P := fun r U => rOK U ∧ U 0 23 = (y8 + x9)) ⟨(po_ok_Model_scaled S84 r84 p84.1), (po_pz_Model_scaled S84 r84 p84.2)⟩ (fun r87 S87 p87 => ?_))
      refine gw_iadd (pc := 90) F d_Model_group_90 ?_
      refine gw_nI (fun v91 e91 => ?_)
      refine gw_istore (pc := 91) (lv' := [(13, .int v91), (12, .int v78), (11, .int v65), (10, .int r50), (0, .ref (ad 0)), (3, .int a3), (4, .int a4), (5, .int y5), (6, .int y6), (7, .int y7), (8, .int y8), (9, .int x9)]) F d_Model_group_91 (by decide) rfl ?_
      refine gw_iload (pc := 93) F 2 d_Model_group_93 rfl ?_
      refine gw_sipush (pc := 95) (v := (32767 : Int32)) F d_Model_group_95 (by decide) ?_
      refine gw_icmp_leS (pc := 98) (tgt := 111) F d_Model_group_98 (by decide) (fun h98 => ?_) (fun h98 => ?_)
      · refine gw_iload_n (pc := 111) F 5 d_Model_group_111 rfl rfl ?_
        refine gw_istore (pc := 112) (lv' := [(14, .int a3), (13, .int v91), (12, .int v78), (11, .int v65), (10, .int r50), (0, .ref (ad 0)), (3, .int a3), (4, .int a4), (5, .int y5), (6, .int y6), (7, .int y7), (8, .int y8), (9, .int x9)]) F d_Model_group_112 (by decide) rfl ?_
        refine gw_aload_n (pc := 114) F 5 d_Model_group_114 rfl rfl ?_
        refine gw_iload (pc := 115) F 3 d_Model_group_115 rfl ?_
        refine gw_sipush (pc := 117) (v := (1023 : Int32)) F d_Model_group_117 (by decide) ?_
        refine gw_iand (pc := 120) F d_Model_group_120 ?_
        refine gw_iload (pc := 121) F 2 d_Model_group_121 rfl ?_
        refine gw_iload (pc := 123) F 1 d_Model_group_123 rfl ?_
        refine gw_iload (pc := 125) F 0 d_Model_group_125 rfl ?_
        refine gw_iload (pc := 127) F 7 d_Model_group_127 rfl ?_
        refine gw_iconst (pc := 129) (v := (1 : Int32)) F d_Model_group_129 (by decide) ?_
        refine gw_iadd (pc := 130) F d_Model_group_130 ?_
        refine gw_cV (pc := 131) (As := [.int (v65 &&& (1023 : Int32)), .int v78, .int v91, .int a3, .int (a4 + (1 : Int32))]) (rest := []) F (c_Model_lay (gw_FJ F) S87 (v65 &&& (1023 : Int32)) v78 v91 a3 (a4 + (1 : Int32)) (rb_pt p87.2 h8 hl7 h46 h0) (gw_and1023 _)) cw_Model_lay cv_Model_lay tw_617 rfl (by decide) (by decide) (by decide) rE_Model rfl rfl rfl rfl (Nat.le_of_ble_eq_true rfl) d_Model_group_131 (gw_bV (P := fun _ U => rOK U ∧ U 0 23 = y8 + x9 + (1 : Int32)) ⟨(po_ok_Model_lay S87 (v65 &&& (1023 : Int32)) v78 v91 a3 (a4 + (1 : Int32)) p87.1 (gw_and1023 _)), (rb_lz (rb_lay23 S87 (v65 &&& (1023 : Int32)) v78 v91 a3 (a4 + (1 : Int32))) p87.2)⟩ (fun _ S131 p131 => ?_))
        refine gw_iinc (pc := 134) (v := (x9 + (1 : Int32))) (lv' := [(9, .int (x9 + (1 : Int32))), (14, .int a3), (13, .int v91), (12, .int v78), (11, .int v65), (10, .int r50), (0, .ref (ad 0)), (3, .int a3), (4, .int a4), (5, .int y5), (6, .int y6), (7, .int y7), (8, .int y8)]) F 12 d_Model_group_134 rfl (congrArg (HAdd.hAdd x9) (by decide)) (by decide) rfl ?_
        refine gw_goto (pc := 137) (tgt := 42) F d_Model_group_137 (by decide) ?_
        refine gw_lvs (lv' := [(0, .ref (ad 0)), (3, .int a3), (4, .int a4), (5, .int y5), (6, .int y6), (7, .int y7), (8, .int y8), (9, .int (x9 + (1 : Int32)))]) [6, 7, 8, 9, 10, 11, 12, 0] rfl ?_
        exact ih S131 (x9 + (1 : Int32)) (gw_stp h46 hf).1 (gw_stp h46 hf).2.1 (gw_stp0 h46 h0) p131.1 (rb_z1 p131.2)
      · refine gw_aload_n (pc := 101) F 4 d_Model_group_101 rfl rfl ?_
        refine gw_cV (pc := 102) (As := []) (rest := []) F (c_Model_read (gw_FJ F) S87 p87.1) cw_Model_read cv_Model_read tw_625 rfl (by decide) (by decide) (by decide) rE_Model rfl rfl rfl rfl (Nat.le_of_ble_eq_true rfl) d_Model_group_102 (gw_bI (P := fun r U => rOK U ∧ U 0 23 = (y8 + x9)) ⟨(po_ok_Model_read S87 p87.1), (po_pz_Model_read S87 p87.2)⟩ (fun r102 S102 p102 => ?_))
        refine gw_bipush (pc := 105) (v := (15 : Int32)) F d_Model_group_105 (by decide) ?_
        refine gw_iand (pc := 107) F d_Model_group_107 ?_
        refine gw_goto (pc := 108) (tgt := 112) F d_Model_group_108 (by decide) ?_
        refine gw_nI (fun v112 e112 => ?_)
        refine gw_istore (pc := 112) (lv' := [(14, .int v112), (13, .int v91), (12, .int v78), (11, .int v65), (10, .int r50), (0, .ref (ad 0)), (3, .int a3), (4, .int a4), (5, .int y5), (6, .int y6), (7, .int y7), (8, .int y8), (9, .int x9)]) F d_Model_group_112 (by decide) rfl ?_
        refine gw_aload_n (pc := 114) F 5 d_Model_group_114 rfl rfl ?_
        refine gw_iload (pc := 115) F 3 d_Model_group_115 rfl ?_
        refine gw_sipush (pc := 117) (v := (1023 : Int32)) F d_Model_group_117 (by decide) ?_
        refine gw_iand (pc := 120) F d_Model_group_120 ?_
        refine gw_iload (pc := 121) F 2 d_Model_group_121 rfl ?_
        refine gw_iload (pc := 123) F 1 d_Model_group_123 rfl ?_
        refine gw_iload (pc := 125) F 0 d_Model_group_125 rfl ?_
        refine gw_iload (pc := 127) F 7 d_Model_group_127 rfl ?_
        refine gw_iconst (pc := 129) (v := (1 : Int32)) F d_Model_group_129 (by decide) ?_
        refine gw_iadd (pc := 130) F d_Model_group_130 ?_
        refine gw_cV (pc := 131) (As := [.int (v65 &&& (1023 : Int32)), .int v78, .int v91, .int v112, .int (a4 + (1 : Int32))]) (rest := []) F (c_Model_lay (gw_FJ F) S102 (v65 &&& (1023 : Int32)) v78 v91 v112 (a4 + (1 : Int32)) (rb_pt p102.2 h8 hl7 h46 h0) (gw_and1023 _)) cw_Model_lay cv_Model_lay tw_617 rfl (by decide) (by decide) (by decide) rE_Model rfl rfl rfl rfl (Nat.le_of_ble_eq_true rfl) d_Model_group_131 (gw_bV (P := fun _ U => rOK U ∧ U 0 23 = y8 + x9 + (1 : Int32)) ⟨(po_ok_Model_lay S102 (v65 &&& (1023 : Int32)) v78 v91 v112 (a4 + (1 : Int32)) p102.1 (gw_and1023 _)), (rb_lz (rb_lay23 S102 (v65 &&& (1023 : Int32)) v78 v91 v112 (a4 + (1 : Int32))) p102.2)⟩ (fun _ S131 p131 => ?_))
        refine gw_iinc (pc := 134) (v := (x9 + (1 : Int32))) (lv' := [(9, .int (x9 + (1 : Int32))), (14, .int v112), (13, .int v91), (12, .int v78), (11, .int v65), (10, .int r50), (0, .ref (ad 0)), (3, .int a3), (4, .int a4), (5, .int y5), (6, .int y6), (7, .int y7), (8, .int y8)]) F 12 d_Model_group_134 rfl (congrArg (HAdd.hAdd x9) (by decide)) (by decide) rfl ?_
        refine gw_goto (pc := 137) (tgt := 42) F d_Model_group_137 (by decide) ?_
        refine gw_lvs (lv' := [(0, .ref (ad 0)), (3, .int a3), (4, .int a4), (5, .int y5), (6, .int y6), (7, .int y7), (8, .int y8), (9, .int (x9 + (1 : Int32)))]) [6, 7, 8, 9, 10, 11, 12, 0] rfl ?_
        exact ih S131 (x9 + (1 : Int32)) (gw_stp h46 hf).1 (gw_stp h46 hf).2.1 (gw_stp0 h46 h0) p131.1 (rb_z1 p131.2)
noncomputable def f_Model_group   (S : gw_S) (a1 : Int32) (a2 : Int32) (a3 : Int32) (a4 : Int32) : Unit × gw_S := (gw_b (f_Model_read S) fun r3 S3 => gw_b (f_Model_scaled S3 r3) fun r6 S6 => gw_n (a1 - r6) fun v10 => gw_b (f_Model_read S6) fun r15 S15 => gw_b (f_Model_scaled S15 r15) fun r18 S18 => gw_n (a2 - r18) fun v22 => gw_b (f_Model_read S18) fun r25 S25 => gw_n (r25 &&& (15 : Int32)) fun v31 => gw_n (S25 0 23) fun v37 => (fl_Model_group_42 a3 a4 v10 v22 v31 v37 (gw_fu ((v31 : Int32).toInt - ((0 : Int32) : Int32).toInt)) S25 (0 : Int32)))
set_option maxHeartbeats 4000000 in
set_option maxRecDepth 100000 in
theorem c_Model_group (hJ : gw_J 20 ad)   (S : gw_S) (a1 : Int32) (a2 : Int32) (a3 : Int32) (a4 : Int32) (hf_ok : rOK S) (h8 : 0 ≤ (S 0 23).toInt ∧ (S 0 23).toInt ≤ 75) (hs : (S 0 23).toInt ≤ 15 * a4.toInt ∧ 0 ≤ a4.toInt ∧ a4.toInt ≤ 4) : gw_M l y_Model_group prog_8_method_36_code 15 none gTs (gw_rm 2) D gCl (gTys cI cB cC cZ) 20 ad (rE ad cI cB cZ) gw_rV [.ref (ad 0), .int a1, .int a2, .int a3, .int a4] S (f_Model_group S a1 a2 a3 a4) := by
  refine gw_start gTs_ok (plainFor_of_name (by decide)) hJ (Nat.le_of_ble_eq_true rfl) (fun X A F => ?_)
  refine gw_lve (lv' := [(0, .ref (ad 0)), (1, .int a1), (2, .int a2), (3, .int a3), (4, .int a4)]) rfl ?_
  unfold f_Model_group
  refine gw_iload_n (pc := 0) F 1 d_Model_group_0 rfl rfl ?_
  refine gw_aload_n (pc := 1) F 0 d_Model_group_1 rfl rfl ?_
  refine gw_aload_n (pc := 2) F 0 d_Model_group_2 rfl rfl ?_
  refine gw_cV (pc := 3) (As := []) (rest := [.ref (ad 0), .int a1]) F (c_Model_read (gw_FJ F) S hf_ok) cw_Model_read cv_Model_read tw_625 rfl (by decide) (by decide) (by decide) rE_Model rfl rfl rfl rfl (Nat.le_of_ble_eq_true rfl) d_Model_group_3 (gw_bI (P := fun r U => rOK U ∧ U 0 23 = (S 0 23)) ⟨(po_ok_Model_read S hf_ok), (po_pz_Model_read S rfl)⟩ (fun r3 S3 p3 => ?_))
  refine gw_cV (pc := 6) (As := [.int r3]) (rest := [.int a1]) F (c_Model_scaled (gw_FJ F) S3 r3) cw_Model_scaled cv_Model_scaled tw_633 rfl (by decide) (by decide) (by decide) rE_Model rfl rfl rfl rfl (Nat.le_of_ble_eq_true rfl) d_Model_group_6 (gw_bI (P := fun r U => rOK U ∧ U 0 23 = (S 0 23)) ⟨(po_ok_Model_scaled S3 r3 p3.1), (po_pz_Model_scaled S3 r3 p3.2)⟩ (fun r6 S6 p6 => ?_))
  refine gw_isub (pc := 9) F d_Model_group_9 ?_
  refine gw_nI (fun v10 e10 => ?_)
  refine gw_istore (pc := 10) (lv' := [(5, .int v10), (0, .ref (ad 0)), (1, .int a1), (2, .int a2), (3, .int a3), (4, .int a4)]) F d_Model_group_10 (by decide) rfl ?_
  refine gw_iload_n (pc := 12) F 3 d_Model_group_12 rfl rfl ?_
  refine gw_aload_n (pc := 13) F 1 d_Model_group_13 rfl rfl ?_
  refine gw_aload_n (pc := 14) F 1 d_Model_group_14 rfl rfl ?_
  refine gw_cV (pc := 15) (As := []) (rest := [.ref (ad 0), .int a2]) F (c_Model_read (gw_FJ F) S6 p6.1) cw_Model_read cv_Model_read tw_625 rfl (by decide) (by decide) (by decide) rE_Model rfl rfl rfl rfl (Nat.le_of_ble_eq_true rfl) d_Model_group_15 (gw_bI (P := fun r U => rOK U ∧ U 0 23 = (S 0 23)) ⟨(po_ok_Model_read S6 p6.1), (po_pz_Model_read S6 p6.2)⟩ (fun r15 S15 p15 => ?_))
  refine gw_cV (pc := 18) (As := [.int r15]) (rest := [.int a2]) F (c_Model_scaled (gw_FJ F) S15 r15) cw_Model_scaled cv_Model_scaled tw_633 rfl (by decide) (by decide) (by decide) rE_Model rfl rfl rfl rfl (Nat.le_of_ble_eq_true rfl) d_Model_group_18 (gw_bI (P := fun r U => rOK U ∧ U 0 23 = (S 0 23)) ⟨(po_ok_Model_scaled S15 r15 p15.1), (po_pz_Model_scaled S15 r15 p15.2)⟩ (fun r18 S18 p18 => ?_))
  refine gw_isub (pc := 21) F d_Model_group_21 ?_
  refine gw_nI (fun v22 e22 => ?_)
  refine gw_istore (pc := 22) (lv' := [(6, .int v22), (5, .int v10), (0, .ref (ad 0)), (1, .int a1), (2, .int a2), (3, .int a3), (4, .int a4)]) F d_Model_group_22 (by decide) rfl ?_
  refine gw_aload_n (pc := 24) F 2 d_Model_group_24 rfl rfl ?_
  refine gw_cV (pc := 25) (As := []) (rest := []) F (c_Model_read (gw_FJ F) S18 p18.1) cw_Model_read cv_Model_read tw_625 rfl (by decide) (by decide) (by decide) rE_Model rfl rfl rfl rfl (Nat.le_of_ble_eq_true rfl) d_Model_group_25 (gw_bI (P := fun r U => rOK U ∧ U 0 23 = (S 0 23)) ⟨(po_ok_Model_read S18 p18.1), (po_pz_Model_read S18 p18.2)⟩ (fun r25 S25 p25 => ?_))
  refine gw_bipush (pc := 28) (v := (15 : Int32)) F d_Model_group_28 (by decide) ?_
  refine gw_iand (pc := 30) F d_Model_group_30 ?_
  refine gw_nI (fun v31 e31 => ?_)
  refine gw_istore (pc := 31) (lv' := [(7, .int v31), (6, .int v22), (5, .int v10), (0, .ref (ad 0)), (1, .int a1), (2, .int a2), (3, .int a3), (4, .int a4)]) F d_Model_group_31 (by decide) rfl ?_
  refine gw_aload_n (pc := 33) F 3 d_Model_group_33 rfl rfl ?_
  refine rg_Model_parts (pc := 34) F tw_430 d_Model_group_34 ?_
  refine gw_nI (fun v37 e37 => ?_)
  refine gw_istore (pc := 37) (lv' := [(8, .int v37), (7, .int v31), (6, .int v22), (5, .int v10), (0, .ref (ad 0)), (1, .int a1), (2, .int a2), (3, .int a3), (4, .int a4)]) F d_Model_group_37 (by decide) rfl ?_
  refine gw_iconst (pc := 39) (v := (0 : Int32)) F d_Model_group_39 (by decide) ?_
  refine gw_istore (pc := 40) (lv' := [(9, .int (0 : Int32)), (8, .int v37), (7, .int v31), (6, .int v22), (5, .int v10), (0, .ref (ad 0)), (1, .int a1), (2, .int a2), (3, .int a3), (4, .int a4)]) F d_Model_group_40 (by decide) rfl ?_
  refine gw_lvs (lv' := [(0, .ref (ad 0)), (3, .int a3), (4, .int a4), (5, .int v10), (6, .int v22), (7, .int v31), (8, .int v37), (9, .int (0 : Int32))]) [5, 8, 9, 4, 3, 2, 1, 0] rfl ?_
  exact l_Model_group_42  F a3 a4 v10 v22 v31 v37 (gw_inE e31 (gw_and15 _)) (rb_8 e37 p25.2 h8) (rb_s8 e37 p25.2 hs) (gw_fu ((v31 : Int32).toInt - ((0 : Int32) : Int32).toInt)) S25 (0 : Int32) (gw_fu_pos _) (gw_fu_lt _) (by decide) p25.1 (rb_z0 e37)
set_option maxHeartbeats 4000000 in
set_option maxRecDepth 100000 in
theorem pl_ok_Model_group_143  (y7 : Int32) (y8 : Int32) (hl7 : vp_in y7 16) (h8 : 0 ≤ y8.toInt ∧ y8.toInt ≤ 75) : ∀ (n : Nat) (S : gw_S) (x9 : Int32), 0 < n → ((y7 / (2 : Int32)) : Int32).toInt - x9.toInt < (n : Int) → 0 ≤ x9.toInt → rOK S → rOK (fl_Model_group_143 y7 y8 n S x9).2 := by
  intro n
  induction n with
  | zero => intro S x9 hn hf h0 hf_ok; exact absurd hn (Nat.lt_irrefl 0)
  | succ n ih =>
    intro S x9 hn hf h0 hf_ok
    refine po_if (Φ := fun p : Unit × gw_S => rOK p.2) (fun h149 => ?_) (fun h149 => ?_)
    · exact hf_ok
    · refine po_b (Φ := fun p : Unit × gw_S => rOK p.2) (P := fun _ U => rOK U) (po_ok_Model_swap S (y8 + x9) (((y8 + y7) - (1 : Int32)) - x9) hf_ok (rb_s1 h8 hl7 h149 h0) (rb_s2 h8 hl7 h149 h0)) (fun _ S168 p168 => ?_)
      exact ih S168 (x9 + (1 : Int32)) (gw_stp h149 hf).1 (gw_stp h149 hf).2.1 (gw_stp0 h149 h0) p168
set_option maxHeartbeats 4000000 in
set_option maxRecDepth 100000 in
theorem pl_ok_Model_group_42  (a3 : Int32) (a4 : Int32) (y5 : Int32) (y6 : Int32) (y7 : Int32) (y8 : Int32) (hl7 : vp_in y7 16) (h8 : 0 ≤ y8.toInt ∧ y8.toInt ≤ 75) (hs8 : y8.toInt ≤ 15 * a4.toInt ∧ 0 ≤ a4.toInt ∧ a4.toInt ≤ 4) : ∀ (n : Nat) (S : gw_S) (x9 : Int32), 0 < n → (y7 : Int32).toInt - x9.toInt < (n : Int) → 0 ≤ x9.toInt → rOK S → S 0 23 = y8 + x9 → rOK (fl_Model_group_42 a3 a4 y5 y6 y7 y8 n S x9).2 := by
  intro n
  induction n with
  | zero => intro S x9 hn hf h0 hf_ok hf_pz; exact absurd hn (Nat.lt_irrefl 0)
  | succ n ih =>
    intro S x9 hn hf h0 hf_ok hf_pz
    refine po_if (Φ := fun p : Unit × gw_S => rOK p.2) (fun h46 => ?_) (fun h46 => ?_)
    · exact pl_ok_Model_group_143 y7 y8 hl7 h8 (gw_fu (((y7 / (2 : Int32)) : Int32).toInt - ((0 : Int32) : Int32).toInt)) S (0 : Int32) (gw_fu_pos _) (gw_fu_lt _) (by decide) hf_ok
    · refine po_b (Φ := fun p : Unit × gw_S => rOK p.2) (P := fun r U => rOK U ∧ U 0 23 = (y8 + x9)) ⟨(po_ok_Model_read S hf_ok), (po_pz_Model_read S hf_pz)⟩ (fun r50 S50 p50 => ?_)
      refine po_b (Φ := fun p : Unit × gw_S => rOK p.2) (P := fun r U => rOK U ∧ U 0 23 = (y8 + x9)) ⟨(po_ok_Model_read S50 p50.1), (po_pz_Model_read S50 p50.2)⟩ (fun r61 S61 p61 => ?_)
      refine po_n (Φ := fun p : Unit × gw_S => rOK p.2) (fun v65 e65 => ?_)
      refine po_b (Φ := fun p : Unit × gw_S => rOK p.2) (P := fun r U => rOK U ∧ U 0 23 = (y8 + x9)) ⟨(po_ok_Model_read S61 p61.1), (po_pz_Model_read S61 p61.2)⟩ (fun r71 S71 p71 => ?_)
      refine po_b (Φ := fun p : Unit × gw_S => rOK p.2) (P := fun r U => rOK U ∧ U 0 23 = (y8 + x9)) ⟨(po_ok_Model_scaled S71 r71 p71.1), (po_pz_Model_scaled S71 r71 p71.2)⟩ (fun r74 S74 p74 => ?_)
      refine po_n (Φ := fun p : Unit × gw_S => rOK p.2) (fun v78 e78 => ?_)
      refine po_b (Φ := fun p : Unit × gw_S => rOK p.2) (P := fun r U => rOK U ∧ U 0 23 = (y8 + x9)) ⟨(po_ok_Model_read S74 p74.1), (po_pz_Model_read S74 p74.2)⟩ (fun r84 S84 p84 => ?_)
      refine po_b (Φ := fun p : Unit × gw_S => rOK p.2) (P := fun r U => rOK U ∧ U 0 23 = (y8 + x9)) ⟨(po_ok_Model_scaled S84 r84 p84.1), (po_pz_Model_scaled S84 r84 p84.2)⟩ (fun r87 S87 p87 => ?_)
      refine po_n (Φ := fun p : Unit × gw_S => rOK p.2) (fun v91 e91 => ?_)
      refine po_if (Φ := fun p : Unit × gw_S => rOK p.2) (fun h98 => ?_) (fun h98 => ?_)
      · refine po_b (Φ := fun p : Unit × gw_S => rOK p.2) (P := fun _ U => rOK U ∧ U 0 23 = y8 + x9 + (1 : Int32)) ⟨(po_ok_Model_lay S87 (v65 &&& (1023 : Int32)) v78 v91 a3 (a4 + (1 : Int32)) p87.1 (gw_and1023 _)), (rb_lz (rb_lay23 S87 (v65 &&& (1023 : Int32)) v78 v91 a3 (a4 + (1 : Int32))) p87.2)⟩ (fun _ S131 p131 => ?_)
        exact ih S131 (x9 + (1 : Int32)) (gw_stp h46 hf).1 (gw_stp h46 hf).2.1 (gw_stp0 h46 h0) p131.1 (rb_z1 p131.2)
      · refine po_b (Φ := fun p : Unit × gw_S => rOK p.2) (P := fun r U => rOK U ∧ U 0 23 = (y8 + x9)) ⟨(po_ok_Model_read S87 p87.1), (po_pz_Model_read S87 p87.2)⟩ (fun r102 S102 p102 => ?_)
        refine po_n (Φ := fun p : Unit × gw_S => rOK p.2) (fun v112 e112 => ?_)
        refine po_b (Φ := fun p : Unit × gw_S => rOK p.2) (P := fun _ U => rOK U ∧ U 0 23 = y8 + x9 + (1 : Int32)) ⟨(po_ok_Model_lay S102 (v65 &&& (1023 : Int32)) v78 v91 v112 (a4 + (1 : Int32)) p102.1 (gw_and1023 _)), (rb_lz (rb_lay23 S102 (v65 &&& (1023 : Int32)) v78 v91 v112 (a4 + (1 : Int32))) p102.2)⟩ (fun _ S131 p131 => ?_)
        exact ih S131 (x9 + (1 : Int32)) (gw_stp h46 hf).1 (gw_stp h46 hf).2.1 (gw_stp0 h46 h0) p131.1 (rb_z1 p131.2)
set_option maxHeartbeats 4000000 in
set_option maxRecDepth 100000 in
theorem po_ok_Model_group   (S : gw_S) (a1 : Int32) (a2 : Int32) (a3 : Int32) (a4 : Int32) (hf_ok : rOK S) (h8 : 0 ≤ (S 0 23).toInt ∧ (S 0 23).toInt ≤ 75) (hs : (S 0 23).toInt ≤ 15 * a4.toInt ∧ 0 ≤ a4.toInt ∧ a4.toInt ≤ 4) : rOK (f_Model_group S a1 a2 a3 a4).2 := by
  unfold f_Model_group
  refine po_b (Φ := fun p : Unit × gw_S => rOK p.2) (P := fun r U => rOK U ∧ U 0 23 = (S 0 23)) ⟨(po_ok_Model_read S hf_ok), (po_pz_Model_read S rfl)⟩ (fun r3 S3 p3 => ?_)
  refine po_b (Φ := fun p : Unit × gw_S => rOK p.2) (P := fun r U => rOK U ∧ U 0 23 = (S 0 23)) ⟨(po_ok_Model_scaled S3 r3 p3.1), (po_pz_Model_scaled S3 r3 p3.2)⟩ (fun r6 S6 p6 => ?_)
  refine po_n (Φ := fun p : Unit × gw_S => rOK p.2) (fun v10 e10 => ?_)
  refine po_b (Φ := fun p : Unit × gw_S => rOK p.2) (P := fun r U => rOK U ∧ U 0 23 = (S 0 23)) ⟨(po_ok_Model_read S6 p6.1), (po_pz_Model_read S6 p6.2)⟩ (fun r15 S15 p15 => ?_)
  refine po_b (Φ := fun p : Unit × gw_S => rOK p.2) (P := fun r U => rOK U ∧ U 0 23 = (S 0 23)) ⟨(po_ok_Model_scaled S15 r15 p15.1), (po_pz_Model_scaled S15 r15 p15.2)⟩ (fun r18 S18 p18 => ?_)
  refine po_n (Φ := fun p : Unit × gw_S => rOK p.2) (fun v22 e22 => ?_)
  refine po_b (Φ := fun p : Unit × gw_S => rOK p.2) (P := fun r U => rOK U ∧ U 0 23 = (S 0 23)) ⟨(po_ok_Model_read S18 p18.1), (po_pz_Model_read S18 p18.2)⟩ (fun r25 S25 p25 => ?_)
  refine po_n (Φ := fun p : Unit × gw_S => rOK p.2) (fun v31 e31 => ?_)
  refine po_n (Φ := fun p : Unit × gw_S => rOK p.2) (fun v37 e37 => ?_)
  exact pl_ok_Model_group_42 a3 a4 v10 v22 v31 v37 (gw_inE e31 (gw_and15 _)) (rb_8 e37 p25.2 h8) (rb_s8 e37 p25.2 hs) (gw_fu ((v31 : Int32).toInt - ((0 : Int32) : Int32).toInt)) S25 (0 : Int32) (gw_fu_pos _) (gw_fu_lt _) (by decide) p25.1 (rb_z0 e37)
set_option maxHeartbeats 4000000 in
set_option maxRecDepth 100000 in
theorem pl_dz_Model_group_143 {δ : Int32}  (y7 : Int32) (y8 : Int32) (hl7 : vp_in y7 16) (h8 : 0 ≤ y8.toInt ∧ y8.toInt ≤ 75) : ∀ (n : Nat) (S : gw_S) (x9 : Int32), 0 < n → ((y7 / (2 : Int32)) : Int32).toInt - x9.toInt < (n : Int) → 0 ≤ x9.toInt → rOK S → S 0 21 = δ → (fl_Model_group_143 y7 y8 n S x9).2 0 21 = δ := by
  intro n
  induction n with
  | zero => intro S x9 hn hf h0 hf_ok hf_dz; exact absurd hn (Nat.lt_irrefl 0)
  | succ n ih =>
    intro S x9 hn hf h0 hf_ok hf_dz
    refine po_if (Φ := fun p : Unit × gw_S => p.2 0 21 = δ) (fun h149 => ?_) (fun h149 => ?_)
    · exact hf_dz
    · refine po_b (Φ := fun p : Unit × gw_S => p.2 0 21 = δ) (P := fun _ U => rOK U ∧ U 0 21 = δ) ⟨(po_ok_Model_swap S (y8 + x9) (((y8 + y7) - (1 : Int32)) - x9) hf_ok (rb_s1 h8 hl7 h149 h0) (rb_s2 h8 hl7 h149 h0)), (po_dz_Model_swap S (y8 + x9) (((y8 + y7) - (1 : Int32)) - x9) hf_dz (rb_s1 h8 hl7 h149 h0) (rb_s2 h8 hl7 h149 h0))⟩ (fun _ S168 p168 => ?_)
      exact ih S168 (x9 + (1 : Int32)) (gw_stp h149 hf).1 (gw_stp h149 hf).2.1 (gw_stp0 h149 h0) p168.1 p168.2
set_option maxHeartbeats 4000000 in
set_option maxRecDepth 100000 in
theorem pl_dz_Model_group_42 {δ : Int32}  (a3 : Int32) (a4 : Int32) (y5 : Int32) (y6 : Int32) (y7 : Int32) (y8 : Int32) (hl7 : vp_in y7 16) (h8 : 0 ≤ y8.toInt ∧ y8.toInt ≤ 75) (hs8 : y8.toInt ≤ 15 * a4.toInt ∧ 0 ≤ a4.toInt ∧ a4.toInt ≤ 4) : ∀ (n : Nat) (S : gw_S) (x9 : Int32), 0 < n → (y7 : Int32).toInt - x9.toInt < (n : Int) → 0 ≤ x9.toInt → rOK S → S 0 21 = δ → S 0 23 = y8 + x9 → (fl_Model_group_42 a3 a4 y5 y6 y7 y8 n S x9).2 0 21 = δ := by
  intro n
  induction n with
  | zero => intro S x9 hn hf h0 hf_ok hf_dz hf_pz; exact absurd hn (Nat.lt_irrefl 0)
  | succ n ih =>
    intro S x9 hn hf h0 hf_ok hf_dz hf_pz
    refine po_if (Φ := fun p : Unit × gw_S => p.2 0 21 = δ) (fun h46 => ?_) (fun h46 => ?_)
    · exact pl_dz_Model_group_143 y7 y8 hl7 h8 (gw_fu (((y7 / (2 : Int32)) : Int32).toInt - ((0 : Int32) : Int32).toInt)) S (0 : Int32) (gw_fu_pos _) (gw_fu_lt _) (by decide) hf_ok hf_dz
    · refine po_b (Φ := fun p : Unit × gw_S => p.2 0 21 = δ) (P := fun r U => rOK U ∧ U 0 23 = (y8 + x9) ∧ U 0 21 = δ) ⟨(po_ok_Model_read S hf_ok), (po_pz_Model_read S hf_pz), (po_dz_Model_read S hf_dz)⟩ (fun r50 S50 p50 => ?_)
      refine po_b (Φ := fun p : Unit × gw_S => p.2 0 21 = δ) (P := fun r U => rOK U ∧ U 0 23 = (y8 + x9) ∧ U 0 21 = δ) ⟨(po_ok_Model_read S50 p50.1), (po_pz_Model_read S50 p50.2.1), (po_dz_Model_read S50 p50.2.2)⟩ (fun r61 S61 p61 => ?_)
      refine po_n (Φ := fun p : Unit × gw_S => p.2 0 21 = δ) (fun v65 e65 => ?_)
      refine po_b (Φ := fun p : Unit × gw_S => p.2 0 21 = δ) (P := fun r U => rOK U ∧ U 0 23 = (y8 + x9) ∧ U 0 21 = δ) ⟨(po_ok_Model_read S61 p61.1), (po_pz_Model_read S61 p61.2.1), (po_dz_Model_read S61 p61.2.2)⟩ (fun r71 S71 p71 => ?_)
      refine po_b (Φ := fun p : Unit × gw_S => p.2 0 21 = δ) (P := fun r U => rOK U ∧ U 0 23 = (y8 + x9) ∧ U 0 21 = δ) ⟨(po_ok_Model_scaled S71 r71 p71.1), (po_pz_Model_scaled S71 r71 p71.2.1), (po_dz_Model_scaled S71 r71 p71.2.2)⟩ (fun r74 S74 p74 => ?_)
      refine po_n (Φ := fun p : Unit × gw_S => p.2 0 21 = δ) (fun v78 e78 => ?_)
      refine po_b (Φ := fun p : Unit × gw_S => p.2 0 21 = δ) (P := fun r U => rOK U ∧ U 0 23 = (y8 + x9) ∧ U 0 21 = δ) ⟨(po_ok_Model_read S74 p74.1), (po_pz_Model_read S74 p74.2.1), (po_dz_Model_read S74 p74.2.2)⟩ (fun r84 S84 p84 => ?_)
      refine po_b (Φ := fun p : Unit × gw_S => p.2 0 21 = δ) (P := fun r U => rOK U ∧ U 0 23 = (y8 + x9) ∧ U 0 21 = δ) ⟨(po_ok_Model_scaled S84 r84 p84.1), (po_pz_Model_scaled S84 r84 p84.2.1), (po_dz_Model_scaled S84 r84 p84.2.2)⟩ (fun r87 S87 p87 => ?_)
      refine po_n (Φ := fun p : Unit × gw_S => p.2 0 21 = δ) (fun v91 e91 => ?_)
      refine po_if (Φ := fun p : Unit × gw_S => p.2 0 21 = δ) (fun h98 => ?_) (fun h98 => ?_)
      · refine po_b (Φ := fun p : Unit × gw_S => p.2 0 21 = δ) (P := fun _ U => rOK U ∧ U 0 21 = δ ∧ U 0 23 = y8 + x9 + (1 : Int32)) ⟨(po_ok_Model_lay S87 (v65 &&& (1023 : Int32)) v78 v91 a3 (a4 + (1 : Int32)) p87.1 (gw_and1023 _)), (po_dz_Model_lay S87 (v65 &&& (1023 : Int32)) v78 v91 a3 (a4 + (1 : Int32)) p87.2.2 (gw_and1023 _)), (rb_lz (rb_lay23 S87 (v65 &&& (1023 : Int32)) v78 v91 a3 (a4 + (1 : Int32))) p87.2.1)⟩ (fun _ S131 p131 => ?_)
        exact ih S131 (x9 + (1 : Int32)) (gw_stp h46 hf).1 (gw_stp h46 hf).2.1 (gw_stp0 h46 h0) p131.1 p131.2.1 (rb_z1 p131.2.2)
      · refine po_b (Φ := fun p : Unit × gw_S => p.2 0 21 = δ) (P := fun r U => rOK U ∧ U 0 23 = (y8 + x9) ∧ U 0 21 = δ) ⟨(po_ok_Model_read S87 p87.1), (po_pz_Model_read S87 p87.2.1), (po_dz_Model_read S87 p87.2.2)⟩ (fun r102 S102 p102 => ?_)
        refine po_n (Φ := fun p : Unit × gw_S => p.2 0 21 = δ) (fun v112 e112 => ?_)
        refine po_b (Φ := fun p : Unit × gw_S => p.2 0 21 = δ) (P := fun _ U => rOK U ∧ U 0 21 = δ ∧ U 0 23 = y8 + x9 + (1 : Int32)) ⟨(po_ok_Model_lay S102 (v65 &&& (1023 : Int32)) v78 v91 v112 (a4 + (1 : Int32)) p102.1 (gw_and1023 _)), (po_dz_Model_lay S102 (v65 &&& (1023 : Int32)) v78 v91 v112 (a4 + (1 : Int32)) p102.2.2 (gw_and1023 _)), (rb_lz (rb_lay23 S102 (v65 &&& (1023 : Int32)) v78 v91 v112 (a4 + (1 : Int32))) p102.2.1)⟩ (fun _ S131 p131 => ?_)
        exact ih S131 (x9 + (1 : Int32)) (gw_stp h46 hf).1 (gw_stp h46 hf).2.1 (gw_stp0 h46 h0) p131.1 p131.2.1 (rb_z1 p131.2.2)
set_option maxHeartbeats 4000000 in
set_option maxRecDepth 100000 in
theorem po_dz_Model_group {δ : Int32}   (S : gw_S) (a1 : Int32) (a2 : Int32) (a3 : Int32) (a4 : Int32) (hf_dz : S 0 21 = δ) (hf_ok : rOK S) (h8 : 0 ≤ (S 0 23).toInt ∧ (S 0 23).toInt ≤ 75) (hs : (S 0 23).toInt ≤ 15 * a4.toInt ∧ 0 ≤ a4.toInt ∧ a4.toInt ≤ 4) : (f_Model_group S a1 a2 a3 a4).2 0 21 = δ := by
  unfold f_Model_group
  refine po_b (Φ := fun p : Unit × gw_S => p.2 0 21 = δ) (P := fun r U => rOK U ∧ U 0 23 = (S 0 23) ∧ U 0 21 = δ) ⟨(po_ok_Model_read S hf_ok), (po_pz_Model_read S rfl), (po_dz_Model_read S hf_dz)⟩ (fun r3 S3 p3 => ?_)
  refine po_b (Φ := fun p : Unit × gw_S => p.2 0 21 = δ) (P := fun r U => rOK U ∧ U 0 23 = (S 0 23) ∧ U 0 21 = δ) ⟨(po_ok_Model_scaled S3 r3 p3.1), (po_pz_Model_scaled S3 r3 p3.2.1), (po_dz_Model_scaled S3 r3 p3.2.2)⟩ (fun r6 S6 p6 => ?_)
  refine po_n (Φ := fun p : Unit × gw_S => p.2 0 21 = δ) (fun v10 e10 => ?_)
  refine po_b (Φ := fun p : Unit × gw_S => p.2 0 21 = δ) (P := fun r U => rOK U ∧ U 0 23 = (S 0 23) ∧ U 0 21 = δ) ⟨(po_ok_Model_read S6 p6.1), (po_pz_Model_read S6 p6.2.1), (po_dz_Model_read S6 p6.2.2)⟩ (fun r15 S15 p15 => ?_)
  refine po_b (Φ := fun p : Unit × gw_S => p.2 0 21 = δ) (P := fun r U => rOK U ∧ U 0 23 = (S 0 23) ∧ U 0 21 = δ) ⟨(po_ok_Model_scaled S15 r15 p15.1), (po_pz_Model_scaled S15 r15 p15.2.1), (po_dz_Model_scaled S15 r15 p15.2.2)⟩ (fun r18 S18 p18 => ?_)
  refine po_n (Φ := fun p : Unit × gw_S => p.2 0 21 = δ) (fun v22 e22 => ?_)
  refine po_b (Φ := fun p : Unit × gw_S => p.2 0 21 = δ) (P := fun r U => rOK U ∧ U 0 23 = (S 0 23) ∧ U 0 21 = δ) ⟨(po_ok_Model_read S18 p18.1), (po_pz_Model_read S18 p18.2.1), (po_dz_Model_read S18 p18.2.2)⟩ (fun r25 S25 p25 => ?_)
  refine po_n (Φ := fun p : Unit × gw_S => p.2 0 21 = δ) (fun v31 e31 => ?_)
  refine po_n (Φ := fun p : Unit × gw_S => p.2 0 21 = δ) (fun v37 e37 => ?_)
  exact pl_dz_Model_group_42 a3 a4 v10 v22 v31 v37 (gw_inE e31 (gw_and15 _)) (rb_8 e37 p25.2.1 h8) (rb_s8 e37 p25.2.1 hs) (gw_fu ((v31 : Int32).toInt - ((0 : Int32) : Int32).toInt)) S25 (0 : Int32) (gw_fu_pos _) (gw_fu_lt _) (by decide) p25.1 p25.2.2 (rb_z0 e37)
set_option maxHeartbeats 4000000 in
set_option maxRecDepth 100000 in
theorem pl_st_Model_group_143  (y7 : Int32) (y8 : Int32) (hl7 : vp_in y7 16) (h8 : 0 ≤ y8.toInt ∧ y8.toInt ≤ 75) : ∀ (n : Nat) (S : gw_S) (x9 : Int32), 0 < n → ((y7 / (2 : Int32)) : Int32).toInt - x9.toInt < (n : Int) → 0 ≤ x9.toInt → rOK S → rST S → rST (fl_Model_group_143 y7 y8 n S x9).2 := by
  intro n
  induction n with
  | zero => intro S x9 hn hf h0 hf_ok hf_st; exact absurd hn (Nat.lt_irrefl 0)
  | succ n ih =>
    intro S x9 hn hf h0 hf_ok hf_st
    refine po_if (Φ := fun p : Unit × gw_S => rST p.2) (fun h149 => ?_) (fun h149 => ?_)
    · exact hf_st
    · refine po_b (Φ := fun p : Unit × gw_S => rST p.2) (P := fun _ U => rOK U ∧ rST U) ⟨(po_ok_Model_swap S (y8 + x9) (((y8 + y7) - (1 : Int32)) - x9) hf_ok (rb_s1 h8 hl7 h149 h0) (rb_s2 h8 hl7 h149 h0)), (po_st_Model_swap S (y8 + x9) (((y8 + y7) - (1 : Int32)) - x9) hf_st (rb_s1 h8 hl7 h149 h0) (rb_s2 h8 hl7 h149 h0))⟩ (fun _ S168 p168 => ?_)
      exact ih S168 (x9 + (1 : Int32)) (gw_stp h149 hf).1 (gw_stp h149 hf).2.1 (gw_stp0 h149 h0) p168.1 p168.2
set_option maxHeartbeats 4000000 in
set_option maxRecDepth 100000 in
theorem pl_st_Model_group_42  (a3 : Int32) (a4 : Int32) (y5 : Int32) (y6 : Int32) (y7 : Int32) (y8 : Int32) (hl7 : vp_in y7 16) (h8 : 0 ≤ y8.toInt ∧ y8.toInt ≤ 75) (hs8 : y8.toInt ≤ 15 * a4.toInt ∧ 0 ≤ a4.toInt ∧ a4.toInt ≤ 4) : ∀ (n : Nat) (S : gw_S) (x9 : Int32), 0 < n → (y7 : Int32).toInt - x9.toInt < (n : Int) → 0 ≤ x9.toInt → rOK S → rST S → S 0 23 = y8 + x9 → rST (fl_Model_group_42 a3 a4 y5 y6 y7 y8 n S x9).2 := by
  intro n
  induction n with
  | zero => intro S x9 hn hf h0 hf_ok hf_st hf_pz; exact absurd hn (Nat.lt_irrefl 0)
  | succ n ih =>
    intro S x9 hn hf h0 hf_ok hf_st hf_pz
    refine po_if (Φ := fun p : Unit × gw_S => rST p.2) (fun h46 => ?_) (fun h46 => ?_)
    · exact pl_st_Model_group_143 y7 y8 hl7 h8 (gw_fu (((y7 / (2 : Int32)) : Int32).toInt - ((0 : Int32) : Int32).toInt)) S (0 : Int32) (gw_fu_pos _) (gw_fu_lt _) (by decide) hf_ok hf_st
    · refine po_b (Φ := fun p : Unit × gw_S => rST p.2) (P := fun r U => rOK U ∧ U 0 23 = (y8 + x9) ∧ rST U) ⟨(po_ok_Model_read S hf_ok), (po_pz_Model_read S hf_pz), (po_st_Model_read S hf_st)⟩ (fun r50 S50 p50 => ?_)
      refine po_b (Φ := fun p : Unit × gw_S => rST p.2) (P := fun r U => rOK U ∧ U 0 23 = (y8 + x9) ∧ rST U) ⟨(po_ok_Model_read S50 p50.1), (po_pz_Model_read S50 p50.2.1), (po_st_Model_read S50 p50.2.2)⟩ (fun r61 S61 p61 => ?_)
      refine po_n (Φ := fun p : Unit × gw_S => rST p.2) (fun v65 e65 => ?_)
      refine po_b (Φ := fun p : Unit × gw_S => rST p.2) (P := fun r U => rOK U ∧ U 0 23 = (y8 + x9) ∧ rST U) ⟨(po_ok_Model_read S61 p61.1), (po_pz_Model_read S61 p61.2.1), (po_st_Model_read S61 p61.2.2)⟩ (fun r71 S71 p71 => ?_)
      refine po_b (Φ := fun p : Unit × gw_S => rST p.2) (P := fun r U => rOK U ∧ U 0 23 = (y8 + x9) ∧ rST U) ⟨(po_ok_Model_scaled S71 r71 p71.1), (po_pz_Model_scaled S71 r71 p71.2.1), (po_st_Model_scaled S71 r71 p71.2.2)⟩ (fun r74 S74 p74 => ?_)
      refine po_n (Φ := fun p : Unit × gw_S => rST p.2) (fun v78 e78 => ?_)
      refine po_b (Φ := fun p : Unit × gw_S => rST p.2) (P := fun r U => rOK U ∧ U 0 23 = (y8 + x9) ∧ rST U) ⟨(po_ok_Model_read S74 p74.1), (po_pz_Model_read S74 p74.2.1), (po_st_Model_read S74 p74.2.2)⟩ (fun r84 S84 p84 => ?_)
      refine po_b (Φ := fun p : Unit × gw_S => rST p.2) (P := fun r U => rOK U ∧ U 0 23 = (y8 + x9) ∧ rST U) ⟨(po_ok_Model_scaled S84 r84 p84.1), (po_pz_Model_scaled S84 r84 p84.2.1), (po_st_Model_scaled S84 r84 p84.2.2)⟩ (fun r87 S87 p87 => ?_)
      refine po_n (Φ := fun p : Unit × gw_S => rST p.2) (fun v91 e91 => ?_)
      refine po_if (Φ := fun p : Unit × gw_S => rST p.2) (fun h98 => ?_) (fun h98 => ?_)
      · refine po_b (Φ := fun p : Unit × gw_S => rST p.2) (P := fun _ U => rOK U ∧ rST U ∧ U 0 23 = y8 + x9 + (1 : Int32)) ⟨(po_ok_Model_lay S87 (v65 &&& (1023 : Int32)) v78 v91 a3 (a4 + (1 : Int32)) p87.1 (gw_and1023 _)), (rb_st p87.2.2 p87.2.1 h8 hl7 h46 h0 hs8 (rb_lay23 S87 (v65 &&& (1023 : Int32)) v78 v91 a3 (a4 + (1 : Int32))) (rb_lay16 S87 (v65 &&& (1023 : Int32)) v78 v91 a3 (a4 + (1 : Int32)))), (rb_lz (rb_lay23 S87 (v65 &&& (1023 : Int32)) v78 v91 a3 (a4 + (1 : Int32))) p87.2.1)⟩ (fun _ S131 p131 => ?_)
        exact ih S131 (x9 + (1 : Int32)) (gw_stp h46 hf).1 (gw_stp h46 hf).2.1 (gw_stp0 h46 h0) p131.1 p131.2.1 (rb_z1 p131.2.2)
      · refine po_b (Φ := fun p : Unit × gw_S => rST p.2) (P := fun r U => rOK U ∧ U 0 23 = (y8 + x9) ∧ rST U) ⟨(po_ok_Model_read S87 p87.1), (po_pz_Model_read S87 p87.2.1), (po_st_Model_read S87 p87.2.2)⟩ (fun r102 S102 p102 => ?_)
        refine po_n (Φ := fun p : Unit × gw_S => rST p.2) (fun v112 e112 => ?_)
        refine po_b (Φ := fun p : Unit × gw_S => rST p.2) (P := fun _ U => rOK U ∧ rST U ∧ U 0 23 = y8 + x9 + (1 : Int32)) ⟨(po_ok_Model_lay S102 (v65 &&& (1023 : Int32)) v78 v91 v112 (a4 + (1 : Int32)) p102.1 (gw_and1023 _)), (rb_st p102.2.2 p102.2.1 h8 hl7 h46 h0 hs8 (rb_lay23 S102 (v65 &&& (1023 : Int32)) v78 v91 v112 (a4 + (1 : Int32))) (rb_lay16 S102 (v65 &&& (1023 : Int32)) v78 v91 v112 (a4 + (1 : Int32)))), (rb_lz (rb_lay23 S102 (v65 &&& (1023 : Int32)) v78 v91 v112 (a4 + (1 : Int32))) p102.2.1)⟩ (fun _ S131 p131 => ?_)
        exact ih S131 (x9 + (1 : Int32)) (gw_stp h46 hf).1 (gw_stp h46 hf).2.1 (gw_stp0 h46 h0) p131.1 p131.2.1 (rb_z1 p131.2.2)
set_option maxHeartbeats 4000000 in
set_option maxRecDepth 100000 in
theorem po_st_Model_group   (S : gw_S) (a1 : Int32) (a2 : Int32) (a3 : Int32) (a4 : Int32) (hf_st : rST S) (hf_ok : rOK S) (h8 : 0 ≤ (S 0 23).toInt ∧ (S 0 23).toInt ≤ 75) (hs : (S 0 23).toInt ≤ 15 * a4.toInt ∧ 0 ≤ a4.toInt ∧ a4.toInt ≤ 4) : rST (f_Model_group S a1 a2 a3 a4).2 := by
  unfold f_Model_group
  refine po_b (Φ := fun p : Unit × gw_S => rST p.2) (P := fun r U => rOK U ∧ U 0 23 = (S 0 23) ∧ rST U) ⟨(po_ok_Model_read S hf_ok), (po_pz_Model_read S rfl), (po_st_Model_read S hf_st)⟩ (fun r3 S3 p3 => ?_)
  refine po_b (Φ := fun p : Unit × gw_S => rST p.2) (P := fun r U => rOK U ∧ U 0 23 = (S 0 23) ∧ rST U) ⟨(po_ok_Model_scaled S3 r3 p3.1), (po_pz_Model_scaled S3 r3 p3.2.1), (po_st_Model_scaled S3 r3 p3.2.2)⟩ (fun r6 S6 p6 => ?_)
  refine po_n (Φ := fun p : Unit × gw_S => rST p.2) (fun v10 e10 => ?_)
  refine po_b (Φ := fun p : Unit × gw_S => rST p.2) (P := fun r U => rOK U ∧ U 0 23 = (S 0 23) ∧ rST U) ⟨(po_ok_Model_read S6 p6.1), (po_pz_Model_read S6 p6.2.1), (po_st_Model_read S6 p6.2.2)⟩ (fun r15 S15 p15 => ?_)
  refine po_b (Φ := fun p : Unit × gw_S => rST p.2) (P := fun r U => rOK U ∧ U 0 23 = (S 0 23) ∧ rST U) ⟨(po_ok_Model_scaled S15 r15 p15.1), (po_pz_Model_scaled S15 r15 p15.2.1), (po_st_Model_scaled S15 r15 p15.2.2)⟩ (fun r18 S18 p18 => ?_)
  refine po_n (Φ := fun p : Unit × gw_S => rST p.2) (fun v22 e22 => ?_)
  refine po_b (Φ := fun p : Unit × gw_S => rST p.2) (P := fun r U => rOK U ∧ U 0 23 = (S 0 23) ∧ rST U) ⟨(po_ok_Model_read S18 p18.1), (po_pz_Model_read S18 p18.2.1), (po_st_Model_read S18 p18.2.2)⟩ (fun r25 S25 p25 => ?_)
  refine po_n (Φ := fun p : Unit × gw_S => rST p.2) (fun v31 e31 => ?_)
  refine po_n (Φ := fun p : Unit × gw_S => rST p.2) (fun v37 e37 => ?_)
  exact pl_st_Model_group_42 a3 a4 v10 v22 v31 v37 (gw_inE e31 (gw_and15 _)) (rb_8 e37 p25.2.1 h8) (rb_s8 e37 p25.2.1 hs) (gw_fu ((v31 : Int32).toInt - ((0 : Int32) : Int32).toInt)) S25 (0 : Int32) (gw_fu_pos _) (gw_fu_lt _) (by decide) p25.1 p25.2.2 (rb_z0 e37)
set_option maxHeartbeats 4000000 in
set_option maxRecDepth 100000 in
theorem pl_at_Model_group_143  (y7 : Int32) (y8 : Int32) (hl7 : vp_in y7 16) (h8 : 0 ≤ y8.toInt ∧ y8.toInt ≤ 75) : ∀ (n : Nat) (S : gw_S) (x9 : Int32), 0 < n → ((y7 / (2 : Int32)) : Int32).toInt - x9.toInt < (n : Int) → 0 ≤ x9.toInt → rOK S → vp_in (S 0 18) 1024 → vp_in ((fl_Model_group_143 y7 y8 n S x9).2 0 18) 1024 := by
  intro n
  induction n with
  | zero => intro S x9 hn hf h0 hf_ok hf_at; exact absurd hn (Nat.lt_irrefl 0)
  | succ n ih =>
    intro S x9 hn hf h0 hf_ok hf_at
    refine po_if (Φ := fun p : Unit × gw_S => vp_in (p.2 0 18) 1024) (fun h149 => ?_) (fun h149 => ?_)
    · exact hf_at
    · refine po_b (Φ := fun p : Unit × gw_S => vp_in (p.2 0 18) 1024) (P := fun _ U => vp_in (U 0 18) 1024 ∧ rOK U) ⟨(po_at_Model_swap S (y8 + x9) (((y8 + y7) - (1 : Int32)) - x9) hf_at (rb_s1 h8 hl7 h149 h0) (rb_s2 h8 hl7 h149 h0)), (po_ok_Model_swap S (y8 + x9) (((y8 + y7) - (1 : Int32)) - x9) hf_ok (rb_s1 h8 hl7 h149 h0) (rb_s2 h8 hl7 h149 h0))⟩ (fun _ S168 p168 => ?_)
      exact ih S168 (x9 + (1 : Int32)) (gw_stp h149 hf).1 (gw_stp h149 hf).2.1 (gw_stp0 h149 h0) p168.2 p168.1
set_option maxHeartbeats 4000000 in
set_option maxRecDepth 100000 in
theorem pl_at_Model_group_42  (a3 : Int32) (a4 : Int32) (y5 : Int32) (y6 : Int32) (y7 : Int32) (y8 : Int32) (hl7 : vp_in y7 16) (h8 : 0 ≤ y8.toInt ∧ y8.toInt ≤ 75) (hs8 : y8.toInt ≤ 15 * a4.toInt ∧ 0 ≤ a4.toInt ∧ a4.toInt ≤ 4) : ∀ (n : Nat) (S : gw_S) (x9 : Int32), 0 < n → (y7 : Int32).toInt - x9.toInt < (n : Int) → 0 ≤ x9.toInt → rOK S → vp_in (S 0 18) 1024 → S 0 23 = y8 + x9 → vp_in ((fl_Model_group_42 a3 a4 y5 y6 y7 y8 n S x9).2 0 18) 1024 := by
  intro n
  induction n with
  | zero => intro S x9 hn hf h0 hf_ok hf_at hf_pz; exact absurd hn (Nat.lt_irrefl 0)
  | succ n ih =>
    intro S x9 hn hf h0 hf_ok hf_at hf_pz
    refine po_if (Φ := fun p : Unit × gw_S => vp_in (p.2 0 18) 1024) (fun h46 => ?_) (fun h46 => ?_)
    · exact pl_at_Model_group_143 y7 y8 hl7 h8 (gw_fu (((y7 / (2 : Int32)) : Int32).toInt - ((0 : Int32) : Int32).toInt)) S (0 : Int32) (gw_fu_pos _) (gw_fu_lt _) (by decide) hf_ok hf_at
    · refine po_b (Φ := fun p : Unit × gw_S => vp_in (p.2 0 18) 1024) (P := fun r U => vp_in (U 0 18) 1024 ∧ rOK U ∧ U 0 23 = (y8 + x9)) ⟨(po_at_Model_read S hf_at), (po_ok_Model_read S hf_ok), (po_pz_Model_read S hf_pz)⟩ (fun r50 S50 p50 => ?_)
      refine po_b (Φ := fun p : Unit × gw_S => vp_in (p.2 0 18) 1024) (P := fun r U => vp_in (U 0 18) 1024 ∧ rOK U ∧ U 0 23 = (y8 + x9)) ⟨(po_at_Model_read S50 p50.1), (po_ok_Model_read S50 p50.2.1), (po_pz_Model_read S50 p50.2.2)⟩ (fun r61 S61 p61 => ?_)
      refine po_n (Φ := fun p : Unit × gw_S => vp_in (p.2 0 18) 1024) (fun v65 e65 => ?_)
      refine po_b (Φ := fun p : Unit × gw_S => vp_in (p.2 0 18) 1024) (P := fun r U => vp_in (U 0 18) 1024 ∧ rOK U ∧ U 0 23 = (y8 + x9)) ⟨(po_at_Model_read S61 p61.1), (po_ok_Model_read S61 p61.2.1), (po_pz_Model_read S61 p61.2.2)⟩ (fun r71 S71 p71 => ?_)
      refine po_b (Φ := fun p : Unit × gw_S => vp_in (p.2 0 18) 1024) (P := fun r U => vp_in (U 0 18) 1024 ∧ rOK U ∧ U 0 23 = (y8 + x9)) ⟨(po_at_Model_scaled S71 r71 p71.1), (po_ok_Model_scaled S71 r71 p71.2.1), (po_pz_Model_scaled S71 r71 p71.2.2)⟩ (fun r74 S74 p74 => ?_)
      refine po_n (Φ := fun p : Unit × gw_S => vp_in (p.2 0 18) 1024) (fun v78 e78 => ?_)
      refine po_b (Φ := fun p : Unit × gw_S => vp_in (p.2 0 18) 1024) (P := fun r U => vp_in (U 0 18) 1024 ∧ rOK U ∧ U 0 23 = (y8 + x9)) ⟨(po_at_Model_read S74 p74.1), (po_ok_Model_read S74 p74.2.1), (po_pz_Model_read S74 p74.2.2)⟩ (fun r84 S84 p84 => ?_)
      refine po_b (Φ := fun p : Unit × gw_S => vp_in (p.2 0 18) 1024) (P := fun r U => vp_in (U 0 18) 1024 ∧ rOK U ∧ U 0 23 = (y8 + x9)) ⟨(po_at_Model_scaled S84 r84 p84.1), (po_ok_Model_scaled S84 r84 p84.2.1), (po_pz_Model_scaled S84 r84 p84.2.2)⟩ (fun r87 S87 p87 => ?_)
      refine po_n (Φ := fun p : Unit × gw_S => vp_in (p.2 0 18) 1024) (fun v91 e91 => ?_)
      refine po_if (Φ := fun p : Unit × gw_S => vp_in (p.2 0 18) 1024) (fun h98 => ?_) (fun h98 => ?_)
      · refine po_b (Φ := fun p : Unit × gw_S => vp_in (p.2 0 18) 1024) (P := fun _ U => vp_in (U 0 18) 1024 ∧ rOK U ∧ U 0 23 = y8 + x9 + (1 : Int32)) ⟨(po_at_Model_lay S87 (v65 &&& (1023 : Int32)) v78 v91 a3 (a4 + (1 : Int32)) p87.1 (gw_and1023 _)), (po_ok_Model_lay S87 (v65 &&& (1023 : Int32)) v78 v91 a3 (a4 + (1 : Int32)) p87.2.1 (gw_and1023 _)), (rb_lz (rb_lay23 S87 (v65 &&& (1023 : Int32)) v78 v91 a3 (a4 + (1 : Int32))) p87.2.2)⟩ (fun _ S131 p131 => ?_)
        exact ih S131 (x9 + (1 : Int32)) (gw_stp h46 hf).1 (gw_stp h46 hf).2.1 (gw_stp0 h46 h0) p131.2.1 p131.1 (rb_z1 p131.2.2)
      · refine po_b (Φ := fun p : Unit × gw_S => vp_in (p.2 0 18) 1024) (P := fun r U => vp_in (U 0 18) 1024 ∧ rOK U ∧ U 0 23 = (y8 + x9)) ⟨(po_at_Model_read S87 p87.1), (po_ok_Model_read S87 p87.2.1), (po_pz_Model_read S87 p87.2.2)⟩ (fun r102 S102 p102 => ?_)
        refine po_n (Φ := fun p : Unit × gw_S => vp_in (p.2 0 18) 1024) (fun v112 e112 => ?_)
        refine po_b (Φ := fun p : Unit × gw_S => vp_in (p.2 0 18) 1024) (P := fun _ U => vp_in (U 0 18) 1024 ∧ rOK U ∧ U 0 23 = y8 + x9 + (1 : Int32)) ⟨(po_at_Model_lay S102 (v65 &&& (1023 : Int32)) v78 v91 v112 (a4 + (1 : Int32)) p102.1 (gw_and1023 _)), (po_ok_Model_lay S102 (v65 &&& (1023 : Int32)) v78 v91 v112 (a4 + (1 : Int32)) p102.2.1 (gw_and1023 _)), (rb_lz (rb_lay23 S102 (v65 &&& (1023 : Int32)) v78 v91 v112 (a4 + (1 : Int32))) p102.2.2)⟩ (fun _ S131 p131 => ?_)
        exact ih S131 (x9 + (1 : Int32)) (gw_stp h46 hf).1 (gw_stp h46 hf).2.1 (gw_stp0 h46 h0) p131.2.1 p131.1 (rb_z1 p131.2.2)
set_option maxHeartbeats 4000000 in
set_option maxRecDepth 100000 in
theorem po_at_Model_group   (S : gw_S) (a1 : Int32) (a2 : Int32) (a3 : Int32) (a4 : Int32) (hf_at : vp_in (S 0 18) 1024) (hf_ok : rOK S) (h8 : 0 ≤ (S 0 23).toInt ∧ (S 0 23).toInt ≤ 75) (hs : (S 0 23).toInt ≤ 15 * a4.toInt ∧ 0 ≤ a4.toInt ∧ a4.toInt ≤ 4) : vp_in ((f_Model_group S a1 a2 a3 a4).2 0 18) 1024 := by
  unfold f_Model_group
  refine po_b (Φ := fun p : Unit × gw_S => vp_in (p.2 0 18) 1024) (P := fun r U => vp_in (U 0 18) 1024 ∧ rOK U ∧ U 0 23 = (S 0 23)) ⟨(po_at_Model_read S hf_at), (po_ok_Model_read S hf_ok), (po_pz_Model_read S rfl)⟩ (fun r3 S3 p3 => ?_)
  refine po_b (Φ := fun p : Unit × gw_S => vp_in (p.2 0 18) 1024) (P := fun r U => vp_in (U 0 18) 1024 ∧ rOK U ∧ U 0 23 = (S 0 23)) ⟨(po_at_Model_scaled S3 r3 p3.1), (po_ok_Model_scaled S3 r3 p3.2.1), (po_pz_Model_scaled S3 r3 p3.2.2)⟩ (fun r6 S6 p6 => ?_)
  refine po_n (Φ := fun p : Unit × gw_S => vp_in (p.2 0 18) 1024) (fun v10 e10 => ?_)
  refine po_b (Φ := fun p : Unit × gw_S => vp_in (p.2 0 18) 1024) (P := fun r U => vp_in (U 0 18) 1024 ∧ rOK U ∧ U 0 23 = (S 0 23)) ⟨(po_at_Model_read S6 p6.1), (po_ok_Model_read S6 p6.2.1), (po_pz_Model_read S6 p6.2.2)⟩ (fun r15 S15 p15 => ?_)
  refine po_b (Φ := fun p : Unit × gw_S => vp_in (p.2 0 18) 1024) (P := fun r U => vp_in (U 0 18) 1024 ∧ rOK U ∧ U 0 23 = (S 0 23)) ⟨(po_at_Model_scaled S15 r15 p15.1), (po_ok_Model_scaled S15 r15 p15.2.1), (po_pz_Model_scaled S15 r15 p15.2.2)⟩ (fun r18 S18 p18 => ?_)
  refine po_n (Φ := fun p : Unit × gw_S => vp_in (p.2 0 18) 1024) (fun v22 e22 => ?_)
  refine po_b (Φ := fun p : Unit × gw_S => vp_in (p.2 0 18) 1024) (P := fun r U => vp_in (U 0 18) 1024 ∧ rOK U ∧ U 0 23 = (S 0 23)) ⟨(po_at_Model_read S18 p18.1), (po_ok_Model_read S18 p18.2.1), (po_pz_Model_read S18 p18.2.2)⟩ (fun r25 S25 p25 => ?_)
  refine po_n (Φ := fun p : Unit × gw_S => vp_in (p.2 0 18) 1024) (fun v31 e31 => ?_)
  refine po_n (Φ := fun p : Unit × gw_S => vp_in (p.2 0 18) 1024) (fun v37 e37 => ?_)
  exact pl_at_Model_group_42 a3 a4 v10 v22 v31 v37 (gw_inE e31 (gw_and15 _)) (rb_8 e37 p25.2.2 h8) (rb_s8 e37 p25.2.2 hs) (gw_fu ((v31 : Int32).toInt - ((0 : Int32) : Int32).toInt)) S25 (0 : Int32) (gw_fu_pos _) (gw_fu_lt _) (by decide) p25.2.1 p25.1 (rb_z0 e37)
set_option maxHeartbeats 4000000 in
set_option maxRecDepth 100000 in
theorem pl_nz_Model_group_143 {ν : Int32}  (y7 : Int32) (y8 : Int32) (hl7 : vp_in y7 16) (h8 : 0 ≤ y8.toInt ∧ y8.toInt ≤ 75) : ∀ (n : Nat) (S : gw_S) (x9 : Int32), 0 < n → ((y7 / (2 : Int32)) : Int32).toInt - x9.toInt < (n : Int) → 0 ≤ x9.toInt → rOK S → S 0 14 = ν → (fl_Model_group_143 y7 y8 n S x9).2 0 14 = ν := by
  intro n
  induction n with
  | zero => intro S x9 hn hf h0 hf_ok hf_nz; exact absurd hn (Nat.lt_irrefl 0)
  | succ n ih =>
    intro S x9 hn hf h0 hf_ok hf_nz
    refine po_if (Φ := fun p : Unit × gw_S => p.2 0 14 = ν) (fun h149 => ?_) (fun h149 => ?_)
    · exact hf_nz
    · refine po_b (Φ := fun p : Unit × gw_S => p.2 0 14 = ν) (P := fun _ U => rOK U ∧ U 0 14 = ν) ⟨(po_ok_Model_swap S (y8 + x9) (((y8 + y7) - (1 : Int32)) - x9) hf_ok (rb_s1 h8 hl7 h149 h0) (rb_s2 h8 hl7 h149 h0)), (po_nz_Model_swap S (y8 + x9) (((y8 + y7) - (1 : Int32)) - x9) hf_nz (rb_s1 h8 hl7 h149 h0) (rb_s2 h8 hl7 h149 h0))⟩ (fun _ S168 p168 => ?_)
      exact ih S168 (x9 + (1 : Int32)) (gw_stp h149 hf).1 (gw_stp h149 hf).2.1 (gw_stp0 h149 h0) p168.1 p168.2
set_option maxHeartbeats 4000000 in
set_option maxRecDepth 100000 in
theorem pl_nz_Model_group_42 {ν : Int32}  (a3 : Int32) (a4 : Int32) (y5 : Int32) (y6 : Int32) (y7 : Int32) (y8 : Int32) (hl7 : vp_in y7 16) (h8 : 0 ≤ y8.toInt ∧ y8.toInt ≤ 75) (hs8 : y8.toInt ≤ 15 * a4.toInt ∧ 0 ≤ a4.toInt ∧ a4.toInt ≤ 4) : ∀ (n : Nat) (S : gw_S) (x9 : Int32), 0 < n → (y7 : Int32).toInt - x9.toInt < (n : Int) → 0 ≤ x9.toInt → rOK S → S 0 23 = y8 + x9 → S 0 14 = ν → (fl_Model_group_42 a3 a4 y5 y6 y7 y8 n S x9).2 0 14 = ν := by
  intro n
  induction n with
  | zero => intro S x9 hn hf h0 hf_ok hf_pz hf_nz; exact absurd hn (Nat.lt_irrefl 0)
  | succ n ih =>
    intro S x9 hn hf h0 hf_ok hf_pz hf_nz
    refine po_if (Φ := fun p : Unit × gw_S => p.2 0 14 = ν) (fun h46 => ?_) (fun h46 => ?_)
    · exact pl_nz_Model_group_143 y7 y8 hl7 h8 (gw_fu (((y7 / (2 : Int32)) : Int32).toInt - ((0 : Int32) : Int32).toInt)) S (0 : Int32) (gw_fu_pos _) (gw_fu_lt _) (by decide) hf_ok hf_nz
    · refine po_b (Φ := fun p : Unit × gw_S => p.2 0 14 = ν) (P := fun r U => rOK U ∧ U 0 23 = (y8 + x9) ∧ U 0 14 = ν) ⟨(po_ok_Model_read S hf_ok), (po_pz_Model_read S hf_pz), (po_nz_Model_read S hf_nz)⟩ (fun r50 S50 p50 => ?_)
      refine po_b (Φ := fun p : Unit × gw_S => p.2 0 14 = ν) (P := fun r U => rOK U ∧ U 0 23 = (y8 + x9) ∧ U 0 14 = ν) ⟨(po_ok_Model_read S50 p50.1), (po_pz_Model_read S50 p50.2.1), (po_nz_Model_read S50 p50.2.2)⟩ (fun r61 S61 p61 => ?_)
      refine po_n (Φ := fun p : Unit × gw_S => p.2 0 14 = ν) (fun v65 e65 => ?_)
      refine po_b (Φ := fun p : Unit × gw_S => p.2 0 14 = ν) (P := fun r U => rOK U ∧ U 0 23 = (y8 + x9) ∧ U 0 14 = ν) ⟨(po_ok_Model_read S61 p61.1), (po_pz_Model_read S61 p61.2.1), (po_nz_Model_read S61 p61.2.2)⟩ (fun r71 S71 p71 => ?_)
      refine po_b (Φ := fun p : Unit × gw_S => p.2 0 14 = ν) (P := fun r U => rOK U ∧ U 0 23 = (y8 + x9) ∧ U 0 14 = ν) ⟨(po_ok_Model_scaled S71 r71 p71.1), (po_pz_Model_scaled S71 r71 p71.2.1), (po_nz_Model_scaled S71 r71 p71.2.2)⟩ (fun r74 S74 p74 => ?_)
      refine po_n (Φ := fun p : Unit × gw_S => p.2 0 14 = ν) (fun v78 e78 => ?_)
      refine po_b (Φ := fun p : Unit × gw_S => p.2 0 14 = ν) (P := fun r U => rOK U ∧ U 0 23 = (y8 + x9) ∧ U 0 14 = ν) ⟨(po_ok_Model_read S74 p74.1), (po_pz_Model_read S74 p74.2.1), (po_nz_Model_read S74 p74.2.2)⟩ (fun r84 S84 p84 => ?_)
      refine po_b (Φ := fun p : Unit × gw_S => p.2 0 14 = ν) (P := fun r U => rOK U ∧ U 0 23 = (y8 + x9) ∧ U 0 14 = ν) ⟨(po_ok_Model_scaled S84 r84 p84.1), (po_pz_Model_scaled S84 r84 p84.2.1), (po_nz_Model_scaled S84 r84 p84.2.2)⟩ (fun r87 S87 p87 => ?_)
      refine po_n (Φ := fun p : Unit × gw_S => p.2 0 14 = ν) (fun v91 e91 => ?_)
      refine po_if (Φ := fun p : Unit × gw_S => p.2 0 14 = ν) (fun h98 => ?_) (fun h98 => ?_)
      · refine po_b (Φ := fun p : Unit × gw_S => p.2 0 14 = ν) (P := fun _ U => rOK U ∧ U 0 14 = ν ∧ U 0 23 = y8 + x9 + (1 : Int32)) ⟨(po_ok_Model_lay S87 (v65 &&& (1023 : Int32)) v78 v91 a3 (a4 + (1 : Int32)) p87.1 (gw_and1023 _)), (po_nz_Model_lay S87 (v65 &&& (1023 : Int32)) v78 v91 a3 (a4 + (1 : Int32)) p87.2.2 (gw_and1023 _)), (rb_lz (rb_lay23 S87 (v65 &&& (1023 : Int32)) v78 v91 a3 (a4 + (1 : Int32))) p87.2.1)⟩ (fun _ S131 p131 => ?_)
        exact ih S131 (x9 + (1 : Int32)) (gw_stp h46 hf).1 (gw_stp h46 hf).2.1 (gw_stp0 h46 h0) p131.1 (rb_z1 p131.2.2) p131.2.1
      · refine po_b (Φ := fun p : Unit × gw_S => p.2 0 14 = ν) (P := fun r U => rOK U ∧ U 0 23 = (y8 + x9) ∧ U 0 14 = ν) ⟨(po_ok_Model_read S87 p87.1), (po_pz_Model_read S87 p87.2.1), (po_nz_Model_read S87 p87.2.2)⟩ (fun r102 S102 p102 => ?_)
        refine po_n (Φ := fun p : Unit × gw_S => p.2 0 14 = ν) (fun v112 e112 => ?_)
        refine po_b (Φ := fun p : Unit × gw_S => p.2 0 14 = ν) (P := fun _ U => rOK U ∧ U 0 14 = ν ∧ U 0 23 = y8 + x9 + (1 : Int32)) ⟨(po_ok_Model_lay S102 (v65 &&& (1023 : Int32)) v78 v91 v112 (a4 + (1 : Int32)) p102.1 (gw_and1023 _)), (po_nz_Model_lay S102 (v65 &&& (1023 : Int32)) v78 v91 v112 (a4 + (1 : Int32)) p102.2.2 (gw_and1023 _)), (rb_lz (rb_lay23 S102 (v65 &&& (1023 : Int32)) v78 v91 v112 (a4 + (1 : Int32))) p102.2.1)⟩ (fun _ S131 p131 => ?_)
        exact ih S131 (x9 + (1 : Int32)) (gw_stp h46 hf).1 (gw_stp h46 hf).2.1 (gw_stp0 h46 h0) p131.1 (rb_z1 p131.2.2) p131.2.1
set_option maxHeartbeats 4000000 in
set_option maxRecDepth 100000 in
theorem po_nz_Model_group {ν : Int32}   (S : gw_S) (a1 : Int32) (a2 : Int32) (a3 : Int32) (a4 : Int32) (hf_nz : S 0 14 = ν) (hf_ok : rOK S) (h8 : 0 ≤ (S 0 23).toInt ∧ (S 0 23).toInt ≤ 75) (hs : (S 0 23).toInt ≤ 15 * a4.toInt ∧ 0 ≤ a4.toInt ∧ a4.toInt ≤ 4) : (f_Model_group S a1 a2 a3 a4).2 0 14 = ν := by
  unfold f_Model_group
  refine po_b (Φ := fun p : Unit × gw_S => p.2 0 14 = ν) (P := fun r U => rOK U ∧ U 0 23 = (S 0 23) ∧ U 0 14 = ν) ⟨(po_ok_Model_read S hf_ok), (po_pz_Model_read S rfl), (po_nz_Model_read S hf_nz)⟩ (fun r3 S3 p3 => ?_)
  refine po_b (Φ := fun p : Unit × gw_S => p.2 0 14 = ν) (P := fun r U => rOK U ∧ U 0 23 = (S 0 23) ∧ U 0 14 = ν) ⟨(po_ok_Model_scaled S3 r3 p3.1), (po_pz_Model_scaled S3 r3 p3.2.1), (po_nz_Model_scaled S3 r3 p3.2.2)⟩ (fun r6 S6 p6 => ?_)
  refine po_n (Φ := fun p : Unit × gw_S => p.2 0 14 = ν) (fun v10 e10 => ?_)
  refine po_b (Φ := fun p : Unit × gw_S => p.2 0 14 = ν) (P := fun r U => rOK U ∧ U 0 23 = (S 0 23) ∧ U 0 14 = ν) ⟨(po_ok_Model_read S6 p6.1), (po_pz_Model_read S6 p6.2.1), (po_nz_Model_read S6 p6.2.2)⟩ (fun r15 S15 p15 => ?_)
  refine po_b (Φ := fun p : Unit × gw_S => p.2 0 14 = ν) (P := fun r U => rOK U ∧ U 0 23 = (S 0 23) ∧ U 0 14 = ν) ⟨(po_ok_Model_scaled S15 r15 p15.1), (po_pz_Model_scaled S15 r15 p15.2.1), (po_nz_Model_scaled S15 r15 p15.2.2)⟩ (fun r18 S18 p18 => ?_)
  refine po_n (Φ := fun p : Unit × gw_S => p.2 0 14 = ν) (fun v22 e22 => ?_)
  refine po_b (Φ := fun p : Unit × gw_S => p.2 0 14 = ν) (P := fun r U => rOK U ∧ U 0 23 = (S 0 23) ∧ U 0 14 = ν) ⟨(po_ok_Model_read S18 p18.1), (po_pz_Model_read S18 p18.2.1), (po_nz_Model_read S18 p18.2.2)⟩ (fun r25 S25 p25 => ?_)
  refine po_n (Φ := fun p : Unit × gw_S => p.2 0 14 = ν) (fun v31 e31 => ?_)
  refine po_n (Φ := fun p : Unit × gw_S => p.2 0 14 = ν) (fun v37 e37 => ?_)
  exact pl_nz_Model_group_42 a3 a4 v10 v22 v31 v37 (gw_inE e31 (gw_and15 _)) (rb_8 e37 p25.2.1 h8) (rb_s8 e37 p25.2.1 hs) (gw_fu ((v31 : Int32).toInt - ((0 : Int32) : Int32).toInt)) S25 (0 : Int32) (gw_fu_pos _) (gw_fu_lt _) (by decide) p25.1 (rb_z0 e37) p25.2.2
end
