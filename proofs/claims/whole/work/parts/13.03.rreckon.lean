section
variable {l : Launch} {D : va_G} {cI cB cC cZ : ClassId} {ad : Nat → Nat}
noncomputable def fl_Model_reckon_165   (S : gw_S) (x2 x4 : Int32) : Unit × gw_S := (gw_b (f_Model_wrapped S x4) fun r172 S172 => gw_n (gw_u S172 3 (x2 : Int32).toNatClampNeg r172) fun S175 => ((), S175))
set_option maxHeartbeats 4000000 in
set_option maxRecDepth 100000 in
theorem l_Model_reckon_165 {X : gx_M} {A : Nat → Prop}  (F : gw_F X l prog_8_method_17_code 5 none "StageMachineModel" gTs (gw_rm 3) D gCl (gTys cI cB cC cZ) 20 ad A)  : ∀ (S : gw_S) (x2 x4 : Int32), vp_in x2 32 → vp_in (S 0 18) 1024 → gw_V X (gw_P D gCl 20 ad (rE ad cI cB cZ)) A 5 gw_rV S 165 [(0, .ref (ad 0)), (2, .int x2), (4, .int x4)] [] (fl_Model_reckon_165  S x2 x4) := by
    intro S x2 x4 hx2 hf_at
    unfold fl_Model_reckon_165
    refine gw_aload_n (pc := 165) F 0 d_Model_reckon_165 rfl rfl ?_
    refine rg_Model_variable (pc := 166) F tw_409 d_Model_reckon_166 ?_
    refine gw_iload_n (pc := 169) F 1 d_Model_reckon_169 rfl rfl ?_
    refine gw_iload (pc := 170) F 2 d_Model_reckon_170 rfl ?_
    refine gw_cS (pc := 172) (As := [.int x4]) (rest := [.int x2, .ref (ad 3)]) F (c_Model_wrapped (gw_FJ F) S x4) cw_Model_wrapped cv_Model_wrapped tw_523 rfl (by decide) (by decide) rfl rfl (Nat.le_of_ble_eq_true rfl) d_Model_reckon_172 (gw_bI (P := fun r U => vp_in (U 0 18) 1024) (po_at_Model_wrapped S x4 hf_at) (fun r172 S172 p172 => ?_))
    refine rs_MVar (pc := 175) F hx2 d_Model_reckon_175 ?_
    refine gw_nS (fun S175 E175 => ?_)
    exact gw_vret (pc := 176) F d_Model_reckon_176
noncomputable def fl_Model_reckon_53  (a1 : Int32) (S : gw_S) (x2 x3 : Int32) : Unit × gw_S := (gw_n (S 3 (x2 : Int32).toNatClampNeg) fun v59 => (if a1 = 0 then (fl_Model_reckon_165   S x2 x3) else (if a1 = 1 then (fl_Model_reckon_165   S x2 x3) else (if a1 = 2 then (gw_n (v59 + x3) fun v118 => (fl_Model_reckon_165   S x2 v118)) else (if a1 = 3 then (gw_n (v59 + x3) fun v118 => (fl_Model_reckon_165   S x2 v118)) else (if a1 = 4 then (gw_n (v59 - x3) fun v127 => (fl_Model_reckon_165   S x2 v127)) else (if a1 = 5 then (gw_n (v59 &&& x3) fun v136 => (fl_Model_reckon_165   S x2 v136)) else (if a1 = 6 then (gw_n (v59 ||| x3) fun v145 => (fl_Model_reckon_165   S x2 v145)) else (if a1 = 7 then (gw_n (v59 <<< (x3 &&& 31)) fun v154 => (fl_Model_reckon_165   S x2 v154)) else (gw_n (v59 >>> (x3 &&& 31)) fun v163 => (fl_Model_reckon_165   S x2 v163)))))))))))
set_option maxHeartbeats 4000000 in
set_option maxRecDepth 100000 in
theorem l_Model_reckon_53 {X : gx_M} {A : Nat → Prop}  (F : gw_F X l prog_8_method_17_code 5 none "StageMachineModel" gTs (gw_rm 3) D gCl (gTys cI cB cC cZ) 20 ad A) (a1 : Int32) : ∀ (S : gw_S) (x2 x3 : Int32), vp_in x2 32 → vp_in (S 0 18) 1024 → gw_V X (gw_P D gCl 20 ad (rE ad cI cB cZ)) A 5 gw_rV S 53 [(0, .ref (ad 0)), (1, .int a1), (2, .int x2), (3, .int x3)] [] (fl_Model_reckon_53 a1 S x2 x3) := by
    intro S x2 x3 hx2 hf_at
    unfold fl_Model_reckon_53
    refine gw_aload_n (pc := 53) F 0 d_Model_reckon_53 rfl rfl ?_
    refine rg_Model_variable (pc := 54) F tw_409 d_Model_reckon_54 ?_
    refine gw_iload_n (pc := 57) F 2 d_Model_reckon_57 rfl rfl ?_
    refine rl_MVar (pc := 58) F hx2 d_Model_reckon_58 ?_
    refine gw_nI (fun v59 e59 => ?_)
    refine gw_istore (pc := 59) (lv' := [(4, .int v59), (0, .ref (ad 0)), (1, .int a1), (2, .int x2), (3, .int x3)]) F d_Model_reckon_59 (by decide) rfl ?_
    refine gw_iload_n (pc := 61) F 2 d_Model_reckon_61 rfl rfl ?_
    refine gw_spl (fun h62_0 => ?_) (fun h62_0 => ?_)
    · refine gw_tableIn (pc := 62) (tgt := 108) F d_Model_reckon_62 h62_0 (by decide) (by decide) rfl (by decide) ?_
      refine gw_iload_n (pc := 108) F 4 d_Model_reckon_108 rfl rfl ?_
      refine gw_istore (pc := 109) (lv' := [(4, .int x3), (0, .ref (ad 0)), (1, .int a1), (2, .int x2), (3, .int x3)]) F d_Model_reckon_109 (by decide) rfl ?_
      refine gw_goto (pc := 111) (tgt := 165) F d_Model_reckon_111 (by decide) ?_
      refine gw_lvs (lv' := [(0, .ref (ad 0)), (2, .int x2), (4, .int x3)]) [1, 3, 0] rfl ?_
      exact l_Model_reckon_165  F    S x2 x3 hx2 hf_at
    refine gw_spl (fun h62_1 => ?_) (fun h62_1 => ?_)
    · refine gw_tableIn (pc := 62) (tgt := 108) F d_Model_reckon_62 h62_1 (by decide) (by decide) rfl (by decide) ?_
      refine gw_iload_n (pc := 108) F 4 d_Model_reckon_108 rfl rfl ?_
      refine gw_istore (pc := 109) (lv' := [(4, .int x3), (0, .ref (ad 0)), (1, .int a1), (2, .int x2), (3, .int x3)]) F d_Model_reckon_109 (by decide) rfl ?_
      refine gw_goto (pc := 111) (tgt := 165) F d_Model_reckon_111 (by decide) ?_
      refine gw_lvs (lv' := [(0, .ref (ad 0)), (2, .int x2), (4, .int x3)]) [1, 3, 0] rfl ?_
      exact l_Model_reckon_165  F    S x2 x3 hx2 hf_at
    refine gw_spl (fun h62_2 => ?_) (fun h62_2 => ?_)
    · refine gw_tableIn (pc := 62) (tgt := 114) F d_Model_reckon_62 h62_2 (by decide) (by decide) rfl (by decide) ?_
      refine gw_iload (pc := 114) F 0 d_Model_reckon_114 rfl ?_
      refine gw_iload_n (pc := 116) F 4 d_Model_reckon_116 rfl rfl ?_
      refine gw_iadd (pc := 117) F d_Model_reckon_117 ?_
      refine gw_nI (fun v118 e118 => ?_)
      refine gw_istore (pc := 118) (lv' := [(4, .int v118), (0, .ref (ad 0)), (1, .int a1), (2, .int x2), (3, .int x3)]) F d_Model_reckon_118 (by decide) rfl ?_
      refine gw_goto (pc := 120) (tgt := 165) F d_Model_reckon_120 (by decide) ?_
      refine gw_lvs (lv' := [(0, .ref (ad 0)), (2, .int x2), (4, .int v118)]) [1, 3, 0] rfl ?_
      exact l_Model_reckon_165  F    S x2 v118 hx2 hf_at
    refine gw_spl (fun h62_3 => ?_) (fun h62_3 => ?_)
    · refine gw_tableIn (pc := 62) (tgt := 114) F d_Model_reckon_62 h62_3 (by decide) (by decide) rfl (by decide) ?_
      refine gw_iload (pc := 114) F 0 d_Model_reckon_114 rfl ?_
      refine gw_iload_n (pc := 116) F 4 d_Model_reckon_116 rfl rfl ?_
      refine gw_iadd (pc := 117) F d_Model_reckon_117 ?_
      refine gw_nI (fun v118 e118 => ?_)
      refine gw_istore (pc := 118) (lv' := [(4, .int v118), (0, .ref (ad 0)), (1, .int a1), (2, .int x2), (3, .int x3)]) F d_Model_reckon_118 (by decide) rfl ?_
      refine gw_goto (pc := 120) (tgt := 165) F d_Model_reckon_120 (by decide) ?_
      refine gw_lvs (lv' := [(0, .ref (ad 0)), (2, .int x2), (4, .int v118)]) [1, 3, 0] rfl ?_
      exact l_Model_reckon_165  F    S x2 v118 hx2 hf_at
    refine gw_spl (fun h62_4 => ?_) (fun h62_4 => ?_)
    · refine gw_tableIn (pc := 62) (tgt := 123) F d_Model_reckon_62 h62_4 (by decide) (by decide) rfl (by decide) ?_
      refine gw_iload (pc := 123) F 0 d_Model_reckon_123 rfl ?_
      refine gw_iload_n (pc := 125) F 4 d_Model_reckon_125 rfl rfl ?_
      refine gw_isub (pc := 126) F d_Model_reckon_126 ?_
      refine gw_nI (fun v127 e127 => ?_)
      refine gw_istore (pc := 127) (lv' := [(4, .int v127), (0, .ref (ad 0)), (1, .int a1), (2, .int x2), (3, .int x3)]) F d_Model_reckon_127 (by decide) rfl ?_
      refine gw_goto (pc := 129) (tgt := 165) F d_Model_reckon_129 (by decide) ?_
      refine gw_lvs (lv' := [(0, .ref (ad 0)), (2, .int x2), (4, .int v127)]) [1, 3, 0] rfl ?_
      exact l_Model_reckon_165  F    S x2 v127 hx2 hf_at
    refine gw_spl (fun h62_5 => ?_) (fun h62_5 => ?_)
    · refine gw_tableIn (pc := 62) (tgt := 132) F d_Model_reckon_62 h62_5 (by decide) (by decide) rfl (by decide) ?_
      refine gw_iload (pc := 132) F 0 d_Model_reckon_132 rfl ?_
      refine gw_iload_n (pc := 134) F 4 d_Model_reckon_134 rfl rfl ?_
      refine gw_iand (pc := 135) F d_Model_reckon_135 ?_
      refine gw_nI (fun v136 e136 => ?_)
      refine gw_istore (pc := 136) (lv' := [(4, .int v136), (0, .ref (ad 0)), (1, .int a1), (2, .int x2), (3, .int x3)]) F d_Model_reckon_136 (by decide) rfl ?_
      refine gw_goto (pc := 138) (tgt := 165) F d_Model_reckon_138 (by decide) ?_
      refine gw_lvs (lv' := [(0, .ref (ad 0)), (2, .int x2), (4, .int v136)]) [1, 3, 0] rfl ?_
      exact l_Model_reckon_165  F    S x2 v136 hx2 hf_at
    refine gw_spl (fun h62_6 => ?_) (fun h62_6 => ?_)
    · refine gw_tableIn (pc := 62) (tgt := 141) F d_Model_reckon_62 h62_6 (by decide) (by decide) rfl (by decide) ?_
      refine gw_iload (pc := 141) F 0 d_Model_reckon_141 rfl ?_
      refine gw_iload_n (pc := 143) F 4 d_Model_reckon_143 rfl rfl ?_
      refine gw_ior (pc := 144) F d_Model_reckon_144 ?_
      refine gw_nI (fun v145 e145 => ?_)
      refine gw_istore (pc := 145) (lv' := [(4, .int v145), (0, .ref (ad 0)), (1, .int a1), (2, .int x2), (3, .int x3)]) F d_Model_reckon_145 (by decide) rfl ?_
      refine gw_goto (pc := 147) (tgt := 165) F d_Model_reckon_147 (by decide) ?_
      refine gw_lvs (lv' := [(0, .ref (ad 0)), (2, .int x2), (4, .int v145)]) [1, 3, 0] rfl ?_
      exact l_Model_reckon_165  F    S x2 v145 hx2 hf_at
    refine gw_spl (fun h62_7 => ?_) (fun h62_7 => ?_)
    · refine gw_tableIn (pc := 62) (tgt := 150) F d_Model_reckon_62 h62_7 (by decide) (by decide) rfl (by decide) ?_
      refine gw_iload (pc := 150) F 0 d_Model_reckon_150 rfl ?_
      refine gw_iload_n (pc := 152) F 4 d_Model_reckon_152 rfl rfl ?_
      refine gw_ishl (pc := 153) F d_Model_reckon_153 ?_
      refine gw_nI (fun v154 e154 => ?_)
      refine gw_istore (pc := 154) (lv' := [(4, .int v154), (0, .ref (ad 0)), (1, .int a1), (2, .int x2), (3, .int x3)]) F d_Model_reckon_154 (by decide) rfl ?_
      refine gw_goto (pc := 156) (tgt := 165) F d_Model_reckon_156 (by decide) ?_
      refine gw_lvs (lv' := [(0, .ref (ad 0)), (2, .int x2), (4, .int v154)]) [1, 3, 0] rfl ?_
      exact l_Model_reckon_165  F    S x2 v154 hx2 hf_at
    refine gw_tableOut (pc := 62) (tgt := 159) F d_Model_reckon_62 (by have ne_0 : ¬ (a1 : Int32).toInt = 0 := gw_ne h62_0; have ne_1 : ¬ (a1 : Int32).toInt = 1 := gw_ne h62_1; have ne_2 : ¬ (a1 : Int32).toInt = 2 := gw_ne h62_2; have ne_3 : ¬ (a1 : Int32).toInt = 3 := gw_ne h62_3; have ne_4 : ¬ (a1 : Int32).toInt = 4 := gw_ne h62_4; have ne_5 : ¬ (a1 : Int32).toInt = 5 := gw_ne h62_5; have ne_6 : ¬ (a1 : Int32).toInt = 6 := gw_ne h62_6; have ne_7 : ¬ (a1 : Int32).toInt = 7 := gw_ne h62_7; omega) (by decide) ?_
    refine gw_iload (pc := 159) F 0 d_Model_reckon_159 rfl ?_
    refine gw_iload_n (pc := 161) F 4 d_Model_reckon_161 rfl rfl ?_
    refine gw_ishr (pc := 162) F d_Model_reckon_162 ?_
    refine gw_nI (fun v163 e163 => ?_)
    refine gw_istore (pc := 163) (lv' := [(4, .int v163), (0, .ref (ad 0)), (1, .int a1), (2, .int x2), (3, .int x3)]) F d_Model_reckon_163 (by decide) rfl ?_
    refine gw_lvs (lv' := [(0, .ref (ad 0)), (2, .int x2), (4, .int v163)]) [1, 3, 0] rfl ?_
    exact l_Model_reckon_165  F    S x2 v163 hx2 hf_at
noncomputable def f_Model_reckon   (S : gw_S) (a1 : Int32) : Unit × gw_S := (gw_b (f_Model_name S) fun r1 S1 => if a1 = (1 : Int32) then (gw_b (f_Model_name S1) fun r25 S25 => gw_n (S25 3 (r25 : Int32).toNatClampNeg) fun v52 => (fl_Model_reckon_53 a1  S25 r1 v52)) else (if a1 = (2 : Int32) then (gw_b (f_Model_name S1) fun r25 S25 => gw_n (S25 3 (r25 : Int32).toNatClampNeg) fun v52 => (fl_Model_reckon_53 a1  S25 r1 v52)) else (if a1 = (4 : Int32) then (gw_b (f_Model_name S1) fun r25 S25 => gw_n (S25 3 (r25 : Int32).toNatClampNeg) fun v52 => (fl_Model_reckon_53 a1  S25 r1 v52)) else (if a1 ≤ (6 : Int32) then (gw_b (f_Model_signed S1) fun r49 S49 => (fl_Model_reckon_53 a1  S49 r1 r49)) else (gw_b (f_Model_next S1) fun r39 S39 => gw_n (r39 &&& (15 : Int32)) fun v52 => (fl_Model_reckon_53 a1  S39 r1 v52))))))
set_option maxHeartbeats 4000000 in
set_option maxRecDepth 100000 in
theorem c_Model_reckon (hJ : gw_J 20 ad)   (S : gw_S) (a1 : Int32) (hf_at : vp_in (S 0 18) 1024) : gw_M l y_Model_reckon prog_8_method_17_code 5 none gTs (gw_rm 3) D gCl (gTys cI cB cC cZ) 20 ad (rE ad cI cB cZ) gw_rV [.ref (ad 0), .int a1] S (f_Model_reckon S a1) := by
  refine gw_start gTs_ok (plainFor_of_name (by decide)) hJ (Nat.le_of_ble_eq_true rfl) (fun X A F => ?_)
  refine gw_lve (lv' := [(0, .ref (ad 0)), (1, .int a1)]) rfl ?_
  unfold f_Model_reckon
  refine gw_aload_n (pc := 0) F 0 d_Model_reckon_0 rfl rfl ?_
  refine gw_cV (pc := 1) (As := []) (rest := []) F (c_Model_name (gw_FJ F) S hf_at) cw_Model_name cv_Model_name tw_578 rfl (by decide) (by decide) (by decide) rE_Model rfl rfl rfl rfl (Nat.le_of_ble_eq_true rfl) d_Model_reckon_1 (gw_bI (P := fun r U => vp_in (U 0 18) 1024 ∧ vp_in r 32) ⟨(po_at_Model_name S hf_at), (rb_name S)⟩ (fun r1 S1 p1 => ?_))
  refine gw_istore_n (pc := 4) (lv' := [(2, .int r1), (0, .ref (ad 0)), (1, .int a1)]) F d_Model_reckon_4 rfl (by decide) rfl ?_
  refine gw_iload_n (pc := 5) F 2 d_Model_reckon_5 rfl rfl ?_
  refine gw_iconst (pc := 6) (v := (1 : Int32)) F d_Model_reckon_6 (by decide) ?_
  refine gw_icmp_eqS (pc := 7) (tgt := 20) F d_Model_reckon_7 (by decide) (fun h7 => ?_) (fun h7 => ?_)
  · refine gw_aload_n (pc := 20) F 1 d_Model_reckon_20 rfl rfl ?_
    refine rg_Model_variable (pc := 21) F tw_409 d_Model_reckon_21 ?_
    refine gw_aload_n (pc := 24) F 1 d_Model_reckon_24 rfl rfl ?_
    refine gw_cV (pc := 25) (As := []) (rest := [.ref (ad 3)]) F (c_Model_name (gw_FJ F) S1 p1.1) cw_Model_name cv_Model_name tw_578 rfl (by decide) (by decide) (by decide) rE_Model rfl rfl rfl rfl (Nat.le_of_ble_eq_true rfl) d_Model_reckon_25 (gw_bI (P := fun r U => vp_in (U 0 18) 1024 ∧ vp_in r 32) ⟨(po_at_Model_name S1 p1.1), (rb_name S1)⟩ (fun r25 S25 p25 => ?_))
    refine rl_MVar (pc := 28) F p25.2 d_Model_reckon_28 ?_
    refine gw_goto (pc := 29) (tgt := 52) F d_Model_reckon_29 (by decide) ?_
    refine gw_nI (fun v52 e52 => ?_)
    refine gw_istore_n (pc := 52) (lv' := [(3, .int v52), (2, .int r1), (0, .ref (ad 0)), (1, .int a1)]) F d_Model_reckon_52 rfl (by decide) rfl ?_
    refine gw_lvs (lv' := [(0, .ref (ad 0)), (1, .int a1), (2, .int r1), (3, .int v52)]) [2, 3, 1, 0] rfl ?_
    exact l_Model_reckon_53  F a1   S25 r1 v52 p1.2 p25.1
  · refine gw_iload_n (pc := 10) F 2 d_Model_reckon_10 rfl rfl ?_
    refine gw_iconst (pc := 11) (v := (2 : Int32)) F d_Model_reckon_11 (by decide) ?_
    refine gw_icmp_eqS (pc := 12) (tgt := 20) F d_Model_reckon_12 (by decide) (fun h12 => ?_) (fun h12 => ?_)
    · refine gw_aload_n (pc := 20) F 1 d_Model_reckon_20 rfl rfl ?_
      refine rg_Model_variable (pc := 21) F tw_409 d_Model_reckon_21 ?_
      refine gw_aload_n (pc := 24) F 1 d_Model_reckon_24 rfl rfl ?_
      refine gw_cV (pc := 25) (As := []) (rest := [.ref (ad 3)]) F (c_Model_name (gw_FJ F) S1 p1.1) cw_Model_name cv_Model_name tw_578 rfl (by decide) (by decide) (by decide) rE_Model rfl rfl rfl rfl (Nat.le_of_ble_eq_true rfl) d_Model_reckon_25 (gw_bI (P := fun r U => vp_in (U 0 18) 1024 ∧ vp_in r 32) ⟨(po_at_Model_name S1 p1.1), (rb_name S1)⟩ (fun r25 S25 p25 => ?_))
      refine rl_MVar (pc := 28) F p25.2 d_Model_reckon_28 ?_
      refine gw_goto (pc := 29) (tgt := 52) F d_Model_reckon_29 (by decide) ?_
      refine gw_nI (fun v52 e52 => ?_)
      refine gw_istore_n (pc := 52) (lv' := [(3, .int v52), (2, .int r1), (0, .ref (ad 0)), (1, .int a1)]) F d_Model_reckon_52 rfl (by decide) rfl ?_
      refine gw_lvs (lv' := [(0, .ref (ad 0)), (1, .int a1), (2, .int r1), (3, .int v52)]) [2, 3, 1, 0] rfl ?_
      exact l_Model_reckon_53  F a1   S25 r1 v52 p1.2 p25.1
    · refine gw_iload_n (pc := 15) F 2 d_Model_reckon_15 rfl rfl ?_
      refine gw_iconst (pc := 16) (v := (4 : Int32)) F d_Model_reckon_16 (by decide) ?_
      refine gw_icmp_neS (pc := 17) (tgt := 32) F d_Model_reckon_17 (by decide) (fun h17 => ?_) (fun h17 => ?_)
      · refine gw_iload_n (pc := 32) F 2 d_Model_reckon_32 rfl rfl ?_
        refine gw_bipush (pc := 33) (v := (6 : Int32)) F d_Model_reckon_33 (by decide) ?_
        refine gw_icmp_leS (pc := 35) (tgt := 48) F d_Model_reckon_35 (by decide) (fun h35 => ?_) (fun h35 => ?_)
        · refine gw_aload_n (pc := 48) F 1 d_Model_reckon_48 rfl rfl ?_
          refine gw_cV (pc := 49) (As := []) (rest := []) F (c_Model_signed (gw_FJ F) S1 p1.1) cw_Model_signed cv_Model_signed tw_586 rfl (by decide) (by decide) (by decide) rE_Model rfl rfl rfl rfl (Nat.le_of_ble_eq_true rfl) d_Model_reckon_49 (gw_bI (P := fun r U => vp_in (U 0 18) 1024) (po_at_Model_signed S1 p1.1) (fun r49 S49 p49 => ?_))
          refine gw_istore_n (pc := 52) (lv' := [(3, .int r49), (2, .int r1), (0, .ref (ad 0)), (1, .int a1)]) F d_Model_reckon_52 rfl (by decide) rfl ?_
          refine gw_lvs (lv' := [(0, .ref (ad 0)), (1, .int a1), (2, .int r1), (3, .int r49)]) [2, 3, 1, 0] rfl ?_
          exact l_Model_reckon_53  F a1   S49 r1 r49 p1.2 p49
        · refine gw_aload_n (pc := 38) F 1 d_Model_reckon_38 rfl rfl ?_
          refine gw_cV (pc := 39) (As := []) (rest := []) F (c_Model_next (gw_FJ F) S1 p1.1) cw_Model_next cv_Model_next tw_550 rfl (by decide) (by decide) (by decide) rE_Model rfl rfl rfl rfl (Nat.le_of_ble_eq_true rfl) d_Model_reckon_39 (gw_bI (P := fun r U => vp_in (U 0 18) 1024) (po_at_Model_next S1 p1.1) (fun r39 S39 p39 => ?_))
          refine gw_bipush (pc := 42) (v := (15 : Int32)) F d_Model_reckon_42 (by decide) ?_
          refine gw_iand (pc := 44) F d_Model_reckon_44 ?_
          refine gw_goto (pc := 45) (tgt := 52) F d_Model_reckon_45 (by decide) ?_
          refine gw_nI (fun v52 e52 => ?_)
          refine gw_istore_n (pc := 52) (lv' := [(3, .int v52), (2, .int r1), (0, .ref (ad 0)), (1, .int a1)]) F d_Model_reckon_52 rfl (by decide) rfl ?_
          refine gw_lvs (lv' := [(0, .ref (ad 0)), (1, .int a1), (2, .int r1), (3, .int v52)]) [2, 3, 1, 0] rfl ?_
          exact l_Model_reckon_53  F a1   S39 r1 v52 p1.2 p39
      · refine gw_aload_n (pc := 20) F 1 d_Model_reckon_20 rfl rfl ?_
        refine rg_Model_variable (pc := 21) F tw_409 d_Model_reckon_21 ?_
        refine gw_aload_n (pc := 24) F 1 d_Model_reckon_24 rfl rfl ?_
        refine gw_cV (pc := 25) (As := []) (rest := [.ref (ad 3)]) F (c_Model_name (gw_FJ F) S1 p1.1) cw_Model_name cv_Model_name tw_578 rfl (by decide) (by decide) (by decide) rE_Model rfl rfl rfl rfl (Nat.le_of_ble_eq_true rfl) d_Model_reckon_25 (gw_bI (P := fun r U => vp_in (U 0 18) 1024 ∧ vp_in r 32) ⟨(po_at_Model_name S1 p1.1), (rb_name S1)⟩ (fun r25 S25 p25 => ?_))
        refine rl_MVar (pc := 28) F p25.2 d_Model_reckon_28 ?_
        refine gw_goto (pc := 29) (tgt := 52) F d_Model_reckon_29 (by decide) ?_
        refine gw_nI (fun v52 e52 => ?_)
        refine gw_istore_n (pc := 52) (lv' := [(3, .int v52), (2, .int r1), (0, .ref (ad 0)), (1, .int a1)]) F d_Model_reckon_52 rfl (by decide) rfl ?_
        refine gw_lvs (lv' := [(0, .ref (ad 0)), (1, .int a1), (2, .int r1), (3, .int v52)]) [2, 3, 1, 0] rfl ?_
        exact l_Model_reckon_53  F a1   S25 r1 v52 p1.2 p25.1
set_option maxHeartbeats 4000000 in
set_option maxRecDepth 100000 in
theorem pl_at_Model_reckon_165   : ∀ (S : gw_S) (x2 x4 : Int32), vp_in x2 32 → vp_in (S 0 18) 1024 → vp_in ((fl_Model_reckon_165  S x2 x4).2 0 18) 1024 := by
    intro S x2 x4 hx2 hf_at
    unfold fl_Model_reckon_165
    refine po_b (Φ := fun p : Unit × gw_S => vp_in (p.2 0 18) 1024) (P := fun r U => vp_in (U 0 18) 1024) (po_at_Model_wrapped S x4 hf_at) (fun r172 S172 p172 => ?_)
    refine po_n (Φ := fun p : Unit × gw_S => vp_in (p.2 0 18) 1024) (fun S175 E175 => ?_)
    exact (rOK_keep (P := fun z => vp_in z 1024) E175 p172 (by omega))
set_option maxHeartbeats 4000000 in
set_option maxRecDepth 100000 in
theorem pl_at_Model_reckon_53  (a1 : Int32) : ∀ (S : gw_S) (x2 x3 : Int32), vp_in x2 32 → vp_in (S 0 18) 1024 → vp_in ((fl_Model_reckon_53 a1 S x2 x3).2 0 18) 1024 := by
    intro S x2 x3 hx2 hf_at
    unfold fl_Model_reckon_53
    refine po_n (Φ := fun p : Unit × gw_S => vp_in (p.2 0 18) 1024) (fun v59 e59 => ?_)
    refine po_if (Φ := fun p : Unit × gw_S => vp_in (p.2 0 18) 1024) (fun h62_0 => ?_) (fun h62_0 => ?_)
    · exact pl_at_Model_reckon_165    S x2 x3 hx2 hf_at
    refine po_if (Φ := fun p : Unit × gw_S => vp_in (p.2 0 18) 1024) (fun h62_1 => ?_) (fun h62_1 => ?_)
    · exact pl_at_Model_reckon_165    S x2 x3 hx2 hf_at
    refine po_if (Φ := fun p : Unit × gw_S => vp_in (p.2 0 18) 1024) (fun h62_2 => ?_) (fun h62_2 => ?_)
    · refine po_n (Φ := fun p : Unit × gw_S => vp_in (p.2 0 18) 1024) (fun v118 e118 => ?_)
      exact pl_at_Model_reckon_165    S x2 v118 hx2 hf_at
    refine po_if (Φ := fun p : Unit × gw_S => vp_in (p.2 0 18) 1024) (fun h62_3 => ?_) (fun h62_3 => ?_)
    · refine po_n (Φ := fun p : Unit × gw_S => vp_in (p.2 0 18) 1024) (fun v118 e118 => ?_)
      exact pl_at_Model_reckon_165    S x2 v118 hx2 hf_at
    refine po_if (Φ := fun p : Unit × gw_S => vp_in (p.2 0 18) 1024) (fun h62_4 => ?_) (fun h62_4 => ?_)
    · refine po_n (Φ := fun p : Unit × gw_S => vp_in (p.2 0 18) 1024) (fun v127 e127 => ?_)
      exact pl_at_Model_reckon_165    S x2 v127 hx2 hf_at
    refine po_if (Φ := fun p : Unit × gw_S => vp_in (p.2 0 18) 1024) (fun h62_5 => ?_) (fun h62_5 => ?_)
    · refine po_n (Φ := fun p : Unit × gw_S => vp_in (p.2 0 18) 1024) (fun v136 e136 => ?_)
      exact pl_at_Model_reckon_165    S x2 v136 hx2 hf_at
    refine po_if (Φ := fun p : Unit × gw_S => vp_in (p.2 0 18) 1024) (fun h62_6 => ?_) (fun h62_6 => ?_)
    · refine po_n (Φ := fun p : Unit × gw_S => vp_in (p.2 0 18) 1024) (fun v145 e145 => ?_)
      exact pl_at_Model_reckon_165    S x2 v145 hx2 hf_at
    refine po_if (Φ := fun p : Unit × gw_S => vp_in (p.2 0 18) 1024) (fun h62_7 => ?_) (fun h62_7 => ?_)
    · refine po_n (Φ := fun p : Unit × gw_S => vp_in (p.2 0 18) 1024) (fun v154 e154 => ?_)
      exact pl_at_Model_reckon_165    S x2 v154 hx2 hf_at
    refine po_n (Φ := fun p : Unit × gw_S => vp_in (p.2 0 18) 1024) (fun v163 e163 => ?_)
    exact pl_at_Model_reckon_165    S x2 v163 hx2 hf_at
set_option maxHeartbeats 4000000 in
set_option maxRecDepth 100000 in
theorem po_at_Model_reckon   (S : gw_S) (a1 : Int32) (hf_at : vp_in (S 0 18) 1024) : vp_in ((f_Model_reckon S a1).2 0 18) 1024 := by
  unfold f_Model_reckon
  refine po_b (Φ := fun p : Unit × gw_S => vp_in (p.2 0 18) 1024) (P := fun r U => vp_in (U 0 18) 1024 ∧ vp_in r 32) ⟨(po_at_Model_name S hf_at), (rb_name S)⟩ (fun r1 S1 p1 => ?_)
  refine po_if (Φ := fun p : Unit × gw_S => vp_in (p.2 0 18) 1024) (fun h7 => ?_) (fun h7 => ?_)
  · refine po_b (Φ := fun p : Unit × gw_S => vp_in (p.2 0 18) 1024) (P := fun r U => vp_in (U 0 18) 1024 ∧ vp_in r 32) ⟨(po_at_Model_name S1 p1.1), (rb_name S1)⟩ (fun r25 S25 p25 => ?_)
    refine po_n (Φ := fun p : Unit × gw_S => vp_in (p.2 0 18) 1024) (fun v52 e52 => ?_)
    exact pl_at_Model_reckon_53 a1   S25 r1 v52 p1.2 p25.1
  · refine po_if (Φ := fun p : Unit × gw_S => vp_in (p.2 0 18) 1024) (fun h12 => ?_) (fun h12 => ?_)
    · refine po_b (Φ := fun p : Unit × gw_S => vp_in (p.2 0 18) 1024) (P := fun r U => vp_in (U 0 18) 1024 ∧ vp_in r 32) ⟨(po_at_Model_name S1 p1.1), (rb_name S1)⟩ (fun r25 S25 p25 => ?_)
      refine po_n (Φ := fun p : Unit × gw_S => vp_in (p.2 0 18) 1024) (fun v52 e52 => ?_)
      exact pl_at_Model_reckon_53 a1   S25 r1 v52 p1.2 p25.1
    · refine po_if (Φ := fun p : Unit × gw_S => vp_in (p.2 0 18) 1024) (fun h17 => ?_) (fun h17 => ?_)
      · refine po_b (Φ := fun p : Unit × gw_S => vp_in (p.2 0 18) 1024) (P := fun r U => vp_in (U 0 18) 1024 ∧ vp_in r 32) ⟨(po_at_Model_name S1 p1.1), (rb_name S1)⟩ (fun r25 S25 p25 => ?_)
        refine po_n (Φ := fun p : Unit × gw_S => vp_in (p.2 0 18) 1024) (fun v52 e52 => ?_)
        exact pl_at_Model_reckon_53 a1   S25 r1 v52 p1.2 p25.1
      · refine po_if (Φ := fun p : Unit × gw_S => vp_in (p.2 0 18) 1024) (fun h35 => ?_) (fun h35 => ?_)
        · refine po_b (Φ := fun p : Unit × gw_S => vp_in (p.2 0 18) 1024) (P := fun r U => vp_in (U 0 18) 1024) (po_at_Model_signed S1 p1.1) (fun r49 S49 p49 => ?_)
          exact pl_at_Model_reckon_53 a1   S49 r1 r49 p1.2 p49
        · refine po_b (Φ := fun p : Unit × gw_S => vp_in (p.2 0 18) 1024) (P := fun r U => vp_in (U 0 18) 1024) (po_at_Model_next S1 p1.1) (fun r39 S39 p39 => ?_)
          refine po_n (Φ := fun p : Unit × gw_S => vp_in (p.2 0 18) 1024) (fun v52 e52 => ?_)
          exact pl_at_Model_reckon_53 a1   S39 r1 v52 p1.2 p39
set_option maxHeartbeats 4000000 in
set_option maxRecDepth 100000 in
theorem pl_ok_Model_reckon_165   : ∀ (S : gw_S) (x2 x4 : Int32), vp_in x2 32 → rOK S → rOK (fl_Model_reckon_165  S x2 x4).2 := by
    intro S x2 x4 hx2 hf_ok
    unfold fl_Model_reckon_165
    refine po_b (Φ := fun p : Unit × gw_S => rOK p.2) (P := fun r U => rOK U) (po_ok_Model_wrapped S x4 hf_ok) (fun r172 S172 p172 => ?_)
    refine po_n (Φ := fun p : Unit × gw_S => rOK p.2) (fun S175 E175 => ?_)
    exact (rOK_c E175 p172 (by omega))
set_option maxHeartbeats 4000000 in
set_option maxRecDepth 100000 in
theorem pl_ok_Model_reckon_53  (a1 : Int32) : ∀ (S : gw_S) (x2 x3 : Int32), vp_in x2 32 → rOK S → rOK (fl_Model_reckon_53 a1 S x2 x3).2 := by
    intro S x2 x3 hx2 hf_ok
    unfold fl_Model_reckon_53
    refine po_n (Φ := fun p : Unit × gw_S => rOK p.2) (fun v59 e59 => ?_)
    refine po_if (Φ := fun p : Unit × gw_S => rOK p.2) (fun h62_0 => ?_) (fun h62_0 => ?_)
    · exact pl_ok_Model_reckon_165    S x2 x3 hx2 hf_ok
    refine po_if (Φ := fun p : Unit × gw_S => rOK p.2) (fun h62_1 => ?_) (fun h62_1 => ?_)
    · exact pl_ok_Model_reckon_165    S x2 x3 hx2 hf_ok
    refine po_if (Φ := fun p : Unit × gw_S => rOK p.2) (fun h62_2 => ?_) (fun h62_2 => ?_)
    · refine po_n (Φ := fun p : Unit × gw_S => rOK p.2) (fun v118 e118 => ?_)
      exact pl_ok_Model_reckon_165    S x2 v118 hx2 hf_ok
    refine po_if (Φ := fun p : Unit × gw_S => rOK p.2) (fun h62_3 => ?_) (fun h62_3 => ?_)
    · refine po_n (Φ := fun p : Unit × gw_S => rOK p.2) (fun v118 e118 => ?_)
      exact pl_ok_Model_reckon_165    S x2 v118 hx2 hf_ok
    refine po_if (Φ := fun p : Unit × gw_S => rOK p.2) (fun h62_4 => ?_) (fun h62_4 => ?_)
    · refine po_n (Φ := fun p : Unit × gw_S => rOK p.2) (fun v127 e127 => ?_)
      exact pl_ok_Model_reckon_165    S x2 v127 hx2 hf_ok
    refine po_if (Φ := fun p : Unit × gw_S => rOK p.2) (fun h62_5 => ?_) (fun h62_5 => ?_)
    · refine po_n (Φ := fun p : Unit × gw_S => rOK p.2) (fun v136 e136 => ?_)
      exact pl_ok_Model_reckon_165    S x2 v136 hx2 hf_ok
    refine po_if (Φ := fun p : Unit × gw_S => rOK p.2) (fun h62_6 => ?_) (fun h62_6 => ?_)
    · refine po_n (Φ := fun p : Unit × gw_S => rOK p.2) (fun v145 e145 => ?_)
      exact pl_ok_Model_reckon_165    S x2 v145 hx2 hf_ok
    refine po_if (Φ := fun p : Unit × gw_S => rOK p.2) (fun h62_7 => ?_) (fun h62_7 => ?_)
    · refine po_n (Φ := fun p : Unit × gw_S => rOK p.2) (fun v154 e154 => ?_)
      exact pl_ok_Model_reckon_165    S x2 v154 hx2 hf_ok
    refine po_n (Φ := fun p : Unit × gw_S => rOK p.2) (fun v163 e163 => ?_)
    exact pl_ok_Model_reckon_165    S x2 v163 hx2 hf_ok
set_option maxHeartbeats 4000000 in
set_option maxRecDepth 100000 in
theorem po_ok_Model_reckon   (S : gw_S) (a1 : Int32) (hf_ok : rOK S) : rOK (f_Model_reckon S a1).2 := by
  unfold f_Model_reckon
  refine po_b (Φ := fun p : Unit × gw_S => rOK p.2) (P := fun r U => rOK U ∧ vp_in r 32) ⟨(po_ok_Model_name S hf_ok), (rb_name S)⟩ (fun r1 S1 p1 => ?_)
  refine po_if (Φ := fun p : Unit × gw_S => rOK p.2) (fun h7 => ?_) (fun h7 => ?_)
  · refine po_b (Φ := fun p : Unit × gw_S => rOK p.2) (P := fun r U => rOK U ∧ vp_in r 32) ⟨(po_ok_Model_name S1 p1.1), (rb_name S1)⟩ (fun r25 S25 p25 => ?_)
    refine po_n (Φ := fun p : Unit × gw_S => rOK p.2) (fun v52 e52 => ?_)
    exact pl_ok_Model_reckon_53 a1   S25 r1 v52 p1.2 p25.1
  · refine po_if (Φ := fun p : Unit × gw_S => rOK p.2) (fun h12 => ?_) (fun h12 => ?_)
    · refine po_b (Φ := fun p : Unit × gw_S => rOK p.2) (P := fun r U => rOK U ∧ vp_in r 32) ⟨(po_ok_Model_name S1 p1.1), (rb_name S1)⟩ (fun r25 S25 p25 => ?_)
      refine po_n (Φ := fun p : Unit × gw_S => rOK p.2) (fun v52 e52 => ?_)
      exact pl_ok_Model_reckon_53 a1   S25 r1 v52 p1.2 p25.1
    · refine po_if (Φ := fun p : Unit × gw_S => rOK p.2) (fun h17 => ?_) (fun h17 => ?_)
      · refine po_b (Φ := fun p : Unit × gw_S => rOK p.2) (P := fun r U => rOK U ∧ vp_in r 32) ⟨(po_ok_Model_name S1 p1.1), (rb_name S1)⟩ (fun r25 S25 p25 => ?_)
        refine po_n (Φ := fun p : Unit × gw_S => rOK p.2) (fun v52 e52 => ?_)
        exact pl_ok_Model_reckon_53 a1   S25 r1 v52 p1.2 p25.1
      · refine po_if (Φ := fun p : Unit × gw_S => rOK p.2) (fun h35 => ?_) (fun h35 => ?_)
        · refine po_b (Φ := fun p : Unit × gw_S => rOK p.2) (P := fun r U => rOK U) (po_ok_Model_signed S1 p1.1) (fun r49 S49 p49 => ?_)
          exact pl_ok_Model_reckon_53 a1   S49 r1 r49 p1.2 p49
        · refine po_b (Φ := fun p : Unit × gw_S => rOK p.2) (P := fun r U => rOK U) (po_ok_Model_next S1 p1.1) (fun r39 S39 p39 => ?_)
          refine po_n (Φ := fun p : Unit × gw_S => rOK p.2) (fun v52 e52 => ?_)
          exact pl_ok_Model_reckon_53 a1   S39 r1 v52 p1.2 p39
set_option maxHeartbeats 4000000 in
set_option maxRecDepth 100000 in
theorem pl_nz_Model_reckon_165 {ν : Int32}   : ∀ (S : gw_S) (x2 x4 : Int32), vp_in x2 32 → S 0 14 = ν → (fl_Model_reckon_165  S x2 x4).2 0 14 = ν := by
    intro S x2 x4 hx2 hf_nz
    unfold fl_Model_reckon_165
    refine po_b (Φ := fun p : Unit × gw_S => p.2 0 14 = ν) (P := fun r U => U 0 14 = ν) (po_nz_Model_wrapped S x4 hf_nz) (fun r172 S172 p172 => ?_)
    refine po_n (Φ := fun p : Unit × gw_S => p.2 0 14 = ν) (fun S175 E175 => ?_)
    exact (rOK_keep (P := fun z => z = ν) E175 p172 (by omega))
set_option maxHeartbeats 4000000 in
set_option maxRecDepth 100000 in
theorem pl_nz_Model_reckon_53 {ν : Int32}  (a1 : Int32) : ∀ (S : gw_S) (x2 x3 : Int32), vp_in x2 32 → S 0 14 = ν → (fl_Model_reckon_53 a1 S x2 x3).2 0 14 = ν := by
    intro S x2 x3 hx2 hf_nz
    unfold fl_Model_reckon_53
    refine po_n (Φ := fun p : Unit × gw_S => p.2 0 14 = ν) (fun v59 e59 => ?_)
    refine po_if (Φ := fun p : Unit × gw_S => p.2 0 14 = ν) (fun h62_0 => ?_) (fun h62_0 => ?_)
    · exact pl_nz_Model_reckon_165    S x2 x3 hx2 hf_nz
    refine po_if (Φ := fun p : Unit × gw_S => p.2 0 14 = ν) (fun h62_1 => ?_) (fun h62_1 => ?_)
    · exact pl_nz_Model_reckon_165    S x2 x3 hx2 hf_nz
    refine po_if (Φ := fun p : Unit × gw_S => p.2 0 14 = ν) (fun h62_2 => ?_) (fun h62_2 => ?_)
    · refine po_n (Φ := fun p : Unit × gw_S => p.2 0 14 = ν) (fun v118 e118 => ?_)
      exact pl_nz_Model_reckon_165    S x2 v118 hx2 hf_nz
    refine po_if (Φ := fun p : Unit × gw_S => p.2 0 14 = ν) (fun h62_3 => ?_) (fun h62_3 => ?_)
    · refine po_n (Φ := fun p : Unit × gw_S => p.2 0 14 = ν) (fun v118 e118 => ?_)
      exact pl_nz_Model_reckon_165    S x2 v118 hx2 hf_nz
    refine po_if (Φ := fun p : Unit × gw_S => p.2 0 14 = ν) (fun h62_4 => ?_) (fun h62_4 => ?_)
    · refine po_n (Φ := fun p : Unit × gw_S => p.2 0 14 = ν) (fun v127 e127 => ?_)
      exact pl_nz_Model_reckon_165    S x2 v127 hx2 hf_nz
    refine po_if (Φ := fun p : Unit × gw_S => p.2 0 14 = ν) (fun h62_5 => ?_) (fun h62_5 => ?_)
    · refine po_n (Φ := fun p : Unit × gw_S => p.2 0 14 = ν) (fun v136 e136 => ?_)
      exact pl_nz_Model_reckon_165    S x2 v136 hx2 hf_nz
    refine po_if (Φ := fun p : Unit × gw_S => p.2 0 14 = ν) (fun h62_6 => ?_) (fun h62_6 => ?_)
    · refine po_n (Φ := fun p : Unit × gw_S => p.2 0 14 = ν) (fun v145 e145 => ?_)
      exact pl_nz_Model_reckon_165    S x2 v145 hx2 hf_nz
    refine po_if (Φ := fun p : Unit × gw_S => p.2 0 14 = ν) (fun h62_7 => ?_) (fun h62_7 => ?_)
    · refine po_n (Φ := fun p : Unit × gw_S => p.2 0 14 = ν) (fun v154 e154 => ?_)
      exact pl_nz_Model_reckon_165    S x2 v154 hx2 hf_nz
    refine po_n (Φ := fun p : Unit × gw_S => p.2 0 14 = ν) (fun v163 e163 => ?_)
    exact pl_nz_Model_reckon_165    S x2 v163 hx2 hf_nz
set_option maxHeartbeats 4000000 in
set_option maxRecDepth 100000 in
theorem po_nz_Model_reckon {ν : Int32}   (S : gw_S) (a1 : Int32) (hf_nz : S 0 14 = ν) : (f_Model_reckon S a1).2 0 14 = ν := by
  unfold f_Model_reckon
  refine po_b (Φ := fun p : Unit × gw_S => p.2 0 14 = ν) (P := fun r U => U 0 14 = ν ∧ vp_in r 32) ⟨(po_nz_Model_name S hf_nz), (rb_name S)⟩ (fun r1 S1 p1 => ?_)
  refine po_if (Φ := fun p : Unit × gw_S => p.2 0 14 = ν) (fun h7 => ?_) (fun h7 => ?_)
  · refine po_b (Φ := fun p : Unit × gw_S => p.2 0 14 = ν) (P := fun r U => U 0 14 = ν ∧ vp_in r 32) ⟨(po_nz_Model_name S1 p1.1), (rb_name S1)⟩ (fun r25 S25 p25 => ?_)
    refine po_n (Φ := fun p : Unit × gw_S => p.2 0 14 = ν) (fun v52 e52 => ?_)
    exact pl_nz_Model_reckon_53 a1   S25 r1 v52 p1.2 p25.1
  · refine po_if (Φ := fun p : Unit × gw_S => p.2 0 14 = ν) (fun h12 => ?_) (fun h12 => ?_)
    · refine po_b (Φ := fun p : Unit × gw_S => p.2 0 14 = ν) (P := fun r U => U 0 14 = ν ∧ vp_in r 32) ⟨(po_nz_Model_name S1 p1.1), (rb_name S1)⟩ (fun r25 S25 p25 => ?_)
      refine po_n (Φ := fun p : Unit × gw_S => p.2 0 14 = ν) (fun v52 e52 => ?_)
      exact pl_nz_Model_reckon_53 a1   S25 r1 v52 p1.2 p25.1
    · refine po_if (Φ := fun p : Unit × gw_S => p.2 0 14 = ν) (fun h17 => ?_) (fun h17 => ?_)
      · refine po_b (Φ := fun p : Unit × gw_S => p.2 0 14 = ν) (P := fun r U => U 0 14 = ν ∧ vp_in r 32) ⟨(po_nz_Model_name S1 p1.1), (rb_name S1)⟩ (fun r25 S25 p25 => ?_)
        refine po_n (Φ := fun p : Unit × gw_S => p.2 0 14 = ν) (fun v52 e52 => ?_)
        exact pl_nz_Model_reckon_53 a1   S25 r1 v52 p1.2 p25.1
      · refine po_if (Φ := fun p : Unit × gw_S => p.2 0 14 = ν) (fun h35 => ?_) (fun h35 => ?_)
        · refine po_b (Φ := fun p : Unit × gw_S => p.2 0 14 = ν) (P := fun r U => U 0 14 = ν) (po_nz_Model_signed S1 p1.1) (fun r49 S49 p49 => ?_)
          exact pl_nz_Model_reckon_53 a1   S49 r1 r49 p1.2 p49
        · refine po_b (Φ := fun p : Unit × gw_S => p.2 0 14 = ν) (P := fun r U => U 0 14 = ν) (po_nz_Model_next S1 p1.1) (fun r39 S39 p39 => ?_)
          refine po_n (Φ := fun p : Unit × gw_S => p.2 0 14 = ν) (fun v52 e52 => ?_)
          exact pl_nz_Model_reckon_53 a1   S39 r1 v52 p1.2 p39
end
