section
variable {l : Launch} {D : va_G} {cI cB cC cZ : ClassId} {ad : Nat → Nat}
noncomputable def fl_Model_polygon_158 (K : gw_S → Unit × gw_S)  (a3 : Int32) (y6 : Int32) (y9 : Int32) (n : Nat) : gw_S → Int32 → Unit × gw_S := gw_L1 (fun self S x10 => (if (40 : Int32) ≤ x10 then (K S) else (if x10 < (S 19 (y9 : Int32).toNatClampNeg) then (self S (x10 + (1 : Int32))) else (if (S 19 ((y9 + (1 : Int32)) : Int32).toNatClampNeg) ≤ x10 then (self S (x10 + (1 : Int32))) else (gw_b (f_Model_line S y9 x10 a3) fun _ S197 => (self S197 (x10 + (1 : Int32)))))))) (fun S _ => ((), S)) n
set_option maxHeartbeats 4000000 in
set_option maxRecDepth 100000 in
theorem l_Model_polygon_158 {X : gx_M} {A : Nat → Prop}  (F : gw_F X l prog_8_method_38_code 11 none "StageMachineModel" gTs (gw_rm 3) D gCl (gTys cI cB cC cZ) 20 ad A) (a3 : Int32) (y6 : Int32) (y9 : Int32) (h9i : vp_in y9 15) {K : gw_S → Unit × gw_S} (hK : ∀ S : gw_S, rOK S → gw_V X (gw_P D gCl 20 ad (rE ad cI cB cZ)) A 11 gw_rV S 206 [(0, .ref (ad 0)), (3, .int a3), (6, .int y6), (9, .int y9)] [] (K S)) : ∀ (n : Nat) (S : gw_S) (x10 : Int32), 0 < n → ((40 : Int32) : Int32).toInt - x10.toInt < (n : Int) → 0 ≤ x10.toInt → rOK S → gw_V X (gw_P D gCl 20 ad (rE ad cI cB cZ)) A 11 gw_rV S 158 [(0, .ref (ad 0)), (3, .int a3), (6, .int y6), (9, .int y9), (10, .int x10)] [] (fl_Model_polygon_158 K a3 y6 y9 n S x10) := by
  intro n
  induction n with
  | zero => intro S x10 hn hf h0 hf_ok; exact absurd hn (Nat.lt_irrefl 0)
  | succ n ih =>
    intro S x10 hn hf h0 hf_ok
    refine gw_iload (pc := 158) F 4 d_Model_polygon_158 rfl ?_
    refine gw_bipush (pc := 160) (v := (40 : Int32)) F d_Model_polygon_160 (by decide) ?_
    refine gw_icmp_geS (pc := 162) (tgt := 206) F d_Model_polygon_162 (by decide) (fun h162 => ?_) (fun h162 => ?_)
    · refine gw_lvs (lv' := [(0, .ref (ad 0)), (3, .int a3), (6, .int y6), (9, .int y9)]) [0, 1, 2, 3] rfl ?_
      exact hK S hf_ok
    · refine gw_iload (pc := 165) F 4 d_Model_polygon_165 rfl ?_
      refine gw_aload_n (pc := 167) F 0 d_Model_polygon_167 rfl rfl ?_
      refine rg_Model_high (pc := 168) F tw_439 d_Model_polygon_168 ?_
      refine gw_iload (pc := 171) F 3 d_Model_polygon_171 rfl ?_
      refine rl_MH (pc := 173) F (gw_in15 h9i) d_Model_polygon_173 ?_
      refine gw_icmp_ltS (pc := 174) (tgt := 200) F d_Model_polygon_174 (by decide) (fun h174 => ?_) (fun h174 => ?_)
      · refine gw_iinc (pc := 200) (v := (x10 + (1 : Int32))) (lv' := [(10, .int (x10 + (1 : Int32))), (0, .ref (ad 0)), (3, .int a3), (6, .int y6), (9, .int y9)]) F 4 d_Model_polygon_200 rfl (congrArg (HAdd.hAdd x10) (by decide)) (by decide) rfl ?_
        refine gw_goto (pc := 203) (tgt := 158) F d_Model_polygon_203 (by decide) ?_
        refine gw_lvs (lv' := [(0, .ref (ad 0)), (3, .int a3), (6, .int y6), (9, .int y9), (10, .int (x10 + (1 : Int32)))]) [1, 2, 3, 4, 0] rfl ?_
        exact ih S (x10 + (1 : Int32)) (gw_stp h162 hf).1 (gw_stp h162 hf).2.1 (gw_stp0 h162 h0) hf_ok
      · refine gw_iload (pc := 177) F 4 d_Model_polygon_177 rfl ?_
        refine gw_aload_n (pc := 179) F 0 d_Model_polygon_179 rfl rfl ?_
        refine rg_Model_high (pc := 180) F tw_439 d_Model_polygon_180 ?_
        refine gw_iload (pc := 183) F 3 d_Model_polygon_183 rfl ?_
        refine gw_iconst (pc := 185) (v := (1 : Int32)) F d_Model_polygon_185 (by decide) ?_
        refine gw_iadd (pc := 186) F d_Model_polygon_186 ?_
        refine rl_MH (pc := 187) F (gw_in15s h9i) d_Model_polygon_187 ?_
        refine gw_icmp_geS (pc := 188) (tgt := 200) F d_Model_polygon_188 (by decide) (fun h188 => ?_) (fun h188 => ?_)
        · refine gw_iinc (pc := 200) (v := (x10 + (1 : Int32))) (lv' := [(10, .int (x10 + (1 : Int32))), (0, .ref (ad 0)), (3, .int a3), (6, .int y6), (9, .int y9)]) F 4 d_Model_polygon_200 rfl (congrArg (HAdd.hAdd x10) (by decide)) (by decide) rfl ?_
          refine gw_goto (pc := 203) (tgt := 158) F d_Model_polygon_203 (by decide) ?_
          refine gw_lvs (lv' := [(0, .ref (ad 0)), (3, .int a3), (6, .int y6), (9, .int y9), (10, .int (x10 + (1 : Int32)))]) [1, 2, 3, 4, 0] rfl ?_
          exact ih S (x10 + (1 : Int32)) (gw_stp h162 hf).1 (gw_stp h162 hf).2.1 (gw_stp0 h162 h0) hf_ok
        · refine gw_aload_n (pc := 191) F 0 d_Model_polygon_191 rfl rfl ?_
          refine gw_iload (pc := 192) F 3 d_Model_polygon_192 rfl ?_
          refine gw_iload (pc := 194) F 4 d_Model_polygon_194 rfl ?_
          refine gw_iload_n (pc := 196) F 1 d_Model_polygon_196 rfl rfl ?_
          refine gw_cV (pc := 197) (As := [.int y9, .int x10, .int a3]) (rest := []) F (c_Model_line (gw_FJ F) S y9 x10 a3 hf_ok h9i (gw_inB (N := 40) (by decide) h162 h0) (rb_hh h174 h188)) cw_Model_line cv_Model_line tw_642 rfl (by decide) (by decide) (by decide) rE_Model rfl rfl rfl rfl (Nat.le_of_ble_eq_true rfl) d_Model_polygon_197 (gw_bV (P := fun _ U => rOK U) (po_ok_Model_line S y9 x10 a3 hf_ok h9i (gw_inB (N := 40) (by decide) h162 h0) (rb_hh h174 h188)) (fun _ S197 p197 => ?_))
          refine gw_iinc (pc := 200) (v := (x10 + (1 : Int32))) (lv' := [(10, .int (x10 + (1 : Int32))), (0, .ref (ad 0)), (3, .int a3), (6, .int y6), (9, .int y9)]) F 4 d_Model_polygon_200 rfl (congrArg (HAdd.hAdd x10) (by decide)) (by decide) rfl ?_
          refine gw_goto (pc := 203) (tgt := 158) F d_Model_polygon_203 (by decide) ?_
          refine gw_lvs (lv' := [(0, .ref (ad 0)), (3, .int a3), (6, .int y6), (9, .int y9), (10, .int (x10 + (1 : Int32)))]) [1, 2, 3, 4, 0] rfl ?_
          exact ih S197 (x10 + (1 : Int32)) (gw_stp h162 hf).1 (gw_stp h162 hf).2.1 (gw_stp0 h162 h0) p197
noncomputable def fl_Model_polygon_146   (a3 : Int32) (y6 : Int32) (n : Nat) : gw_S → Int32 → Unit × gw_S := gw_L1 (fun self S x9 => (if y6 ≤ (x9 + (1 : Int32)) then (((), S)) else (fl_Model_polygon_158 (fun Sc => (self Sc (x9 + (1 : Int32)))) a3 y6 x9 (gw_fu (((40 : Int32) : Int32).toInt - ((0 : Int32) : Int32).toInt)) S (0 : Int32)))) (fun S _ => ((), S)) n
set_option maxHeartbeats 4000000 in
set_option maxRecDepth 100000 in
theorem l_Model_polygon_146 {X : gx_M} {A : Nat → Prop}  (F : gw_F X l prog_8_method_38_code 11 none "StageMachineModel" gTs (gw_rm 3) D gCl (gTys cI cB cC cZ) 20 ad A) (a3 : Int32) (y6 : Int32) (hl6 : vp_in y6 16) : ∀ (n : Nat) (S : gw_S) (x9 : Int32), 0 < n → (y6 : Int32).toInt - (x9 + (1 : Int32)).toInt < (n : Int) → (x9 + (1 : Int32)).toInt = x9.toInt + 1 → 0 ≤ x9.toInt → rOK S → gw_V X (gw_P D gCl 20 ad (rE ad cI cB cZ)) A 11 gw_rV S 146 [(0, .ref (ad 0)), (3, .int a3), (6, .int y6), (9, .int x9)] [] (fl_Model_polygon_146 a3 y6 n S x9) := by
  intro n
  induction n with
  | zero => intro S x9 hn hf h1 h0 hf_ok; exact absurd hn (Nat.lt_irrefl 0)
  | succ n ih =>
    intro S x9 hn hf h1 h0 hf_ok
    refine gw_iload (pc := 146) F 3 d_Model_polygon_146 rfl ?_
    refine gw_iconst (pc := 148) (v := (1 : Int32)) F d_Model_polygon_148 (by decide) ?_
    refine gw_iadd (pc := 149) F d_Model_polygon_149 ?_
    refine gw_iload (pc := 150) F 2 d_Model_polygon_150 rfl ?_
    refine gw_icmp_geS (pc := 152) (tgt := 212) F d_Model_polygon_152 (by decide) (fun h152 => ?_) (fun h152 => ?_)
    · exact gw_vret (pc := 212) F d_Model_polygon_212
    · refine gw_iconst (pc := 155) (v := (0 : Int32)) F d_Model_polygon_155 (by decide) ?_
      refine gw_istore (pc := 156) (lv' := [(10, .int (0 : Int32)), (0, .ref (ad 0)), (3, .int a3), (6, .int y6), (9, .int x9)]) F d_Model_polygon_156 (by decide) rfl ?_
      refine gw_lvs (lv' := [(0, .ref (ad 0)), (3, .int a3), (6, .int y6), (9, .int x9), (10, .int (0 : Int32))]) [1, 2, 3, 4, 0] rfl ?_
      refine l_Model_polygon_158  F a3 y6 x9 (gw_inP hl6 h152 h1 h0) (fun Sc hc_ok => ?_) (gw_fu (((40 : Int32) : Int32).toInt - ((0 : Int32) : Int32).toInt)) S (0 : Int32) (gw_fu_pos _) (gw_fu_lt _) (by decide) hf_ok
      refine gw_iinc (pc := 206) (v := (x9 + (1 : Int32))) (lv' := [(9, .int (x9 + (1 : Int32))), (0, .ref (ad 0)), (3, .int a3), (6, .int y6)]) F 3 d_Model_polygon_206 rfl (congrArg (HAdd.hAdd x9) (by decide)) (by decide) rfl ?_
      refine gw_goto (pc := 209) (tgt := 146) F d_Model_polygon_209 (by decide) ?_
      refine gw_lvs (lv' := [(0, .ref (ad 0)), (3, .int a3), (6, .int y6), (9, .int (x9 + (1 : Int32)))]) [1, 2, 3, 0] rfl ?_
      exact ih Sc (x9 + (1 : Int32)) (gw_stp h152 hf).1 (gw_stp h152 hf).2.1 (gw_lt1 h152) (gw_up1 h1 h0) hc_ok
noncomputable def fl_Model_polygon_112   (a3 : Int32) (y6 : Int32) (y7 : Int32) (n : Nat) : gw_S → Int32 → Unit × gw_S := gw_L1 (fun self S x9 => (if y6 ≤ x9 then (fl_Model_polygon_146 a3 y6 (gw_fu ((y6 : Int32).toInt - (((0 : Int32) : Int32) + (1 : Int32)).toInt)) S (0 : Int32)) else (gw_b (f_Model_read S) fun r129 S129 => gw_b (f_Model_scaled S129 r129) fun r132 S132 => gw_n (gw_u S132 18 (x9 : Int32).toNatClampNeg (y7 + r132)) fun S136 => (self S136 (x9 + (1 : Int32)))))) (fun S _ => ((), S)) n
set_option maxHeartbeats 4000000 in
set_option maxRecDepth 100000 in
theorem l_Model_polygon_112 {X : gx_M} {A : Nat → Prop}  (F : gw_F X l prog_8_method_38_code 11 none "StageMachineModel" gTs (gw_rm 3) D gCl (gTys cI cB cC cZ) 20 ad A) (a3 : Int32) (y6 : Int32) (y7 : Int32) (hl6 : vp_in y6 16) : ∀ (n : Nat) (S : gw_S) (x9 : Int32), 0 < n → (y6 : Int32).toInt - x9.toInt < (n : Int) → 0 ≤ x9.toInt → rOK S → gw_V X (gw_P D gCl 20 ad (rE ad cI cB cZ)) A 11 gw_rV S 112 [(0, .ref (ad 0)), (3, .int a3), (6, .int y6), (7, .int y7), (9, .int x9)] [] (fl_Model_polygon_112 a3 y6 y7 n S x9) := by
  intro n
  induction n with
  | zero => intro S x9 hn hf h0 hf_ok; exact absurd hn (Nat.lt_irrefl 0)
  | succ n ih =>
    intro S x9 hn hf h0 hf_ok
    refine gw_iload (pc := 112) F 4 d_Model_polygon_112 rfl ?_
    refine gw_iload (pc := 114) F 2 d_Model_polygon_114 rfl ?_
    refine gw_icmp_geS (pc := 116) (tgt := 143) F d_Model_polygon_116 (by decide) (fun h116 => ?_) (fun h116 => ?_)
    · refine gw_iconst (pc := 143) (v := (0 : Int32)) F d_Model_polygon_143 (by decide) ?_
      refine gw_istore (pc := 144) (lv' := [(9, .int (0 : Int32)), (0, .ref (ad 0)), (3, .int a3), (6, .int y6), (7, .int y7)]) F d_Model_polygon_144 (by decide) rfl ?_
      refine gw_lvs (lv' := [(0, .ref (ad 0)), (3, .int a3), (6, .int y6), (9, .int (0 : Int32))]) [1, 2, 3, 0] rfl ?_
      exact l_Model_polygon_146  F a3 y6 hl6 (gw_fu ((y6 : Int32).toInt - (((0 : Int32) : Int32) + (1 : Int32)).toInt)) S (0 : Int32) (gw_fu_pos _) (gw_fu_lt _) (by decide) (by decide) hf_ok
    · refine gw_aload_n (pc := 119) F 0 d_Model_polygon_119 rfl rfl ?_
      refine rg_Model_left (pc := 120) F tw_438 d_Model_polygon_120 ?_
      refine gw_iload (pc := 123) F 4 d_Model_polygon_123 rfl ?_
      refine gw_iload (pc := 125) F 3 d_Model_polygon_125 rfl ?_
      refine gw_aload_n (pc := 127) F 0 d_Model_polygon_127 rfl rfl ?_
      refine gw_aload_n (pc := 128) F 0 d_Model_polygon_128 rfl rfl ?_
      refine gw_cV (pc := 129) (As := []) (rest := [.ref (ad 0), .int y7, .int x9, .ref (ad 18)]) F (c_Model_read (gw_FJ F) S hf_ok) cw_Model_read cv_Model_read tw_625 rfl (by decide) (by decide) (by decide) rE_Model rfl rfl rfl rfl (Nat.le_of_ble_eq_true rfl) d_Model_polygon_129 (gw_bI (P := fun r U => rOK U) (po_ok_Model_read S hf_ok) (fun r129 S129 p129 => ?_))
      refine gw_cV (pc := 132) (As := [.int r129]) (rest := [.int y7, .int x9, .ref (ad 18)]) F (c_Model_scaled (gw_FJ F) S129 r129) cw_Model_scaled cv_Model_scaled tw_633 rfl (by decide) (by decide) (by decide) rE_Model rfl rfl rfl rfl (Nat.le_of_ble_eq_true rfl) d_Model_polygon_132 (gw_bI (P := fun r U => rOK U) (po_ok_Model_scaled S129 r129 p129) (fun r132 S132 p132 => ?_))
      refine gw_iadd (pc := 135) F d_Model_polygon_135 ?_
      refine rs_ML (pc := 136) F (gw_inL hl6 h116 h0) d_Model_polygon_136 ?_
      refine gw_nS (fun S136 E136 => ?_)
      refine gw_iinc (pc := 137) (v := (x9 + (1 : Int32))) (lv' := [(9, .int (x9 + (1 : Int32))), (0, .ref (ad 0)), (3, .int a3), (6, .int y6), (7, .int y7)]) F 4 d_Model_polygon_137 rfl (congrArg (HAdd.hAdd x9) (by decide)) (by decide) rfl ?_
      refine gw_goto (pc := 140) (tgt := 112) F d_Model_polygon_140 (by decide) ?_
      refine gw_lvs (lv' := [(0, .ref (ad 0)), (3, .int a3), (6, .int y6), (7, .int y7), (9, .int (x9 + (1 : Int32)))]) [1, 2, 3, 4, 0] rfl ?_
      exact ih S136 (x9 + (1 : Int32)) (gw_stp h116 hf).1 (gw_stp h116 hf).2.1 (gw_stp0 h116 h0) (rOK_c E136 p132 (by omega))
noncomputable def fl_Model_polygon_60   (a3 : Int32) (y6 : Int32) (y7 : Int32) (y8 : Int32) (n : Nat) : gw_S → Int32 → Unit × gw_S := gw_L1 (fun self S x9 => (if y6 ≤ x9 then (fl_Model_polygon_112 a3 y6 y7 (gw_fu ((y6 : Int32).toInt - ((0 : Int32) : Int32).toInt)) S (0 : Int32)) else (gw_b (f_Model_read S) fun r77 S77 => gw_b (f_Model_scaled S77 r77) fun r80 S80 => gw_n (gw_u S80 17 (x9 : Int32).toNatClampNeg (y7 + r80)) fun S84 => gw_b (f_Model_read S84) fun r95 S95 => gw_b (f_Model_scaled S95 r95) fun r98 S98 => gw_n (gw_u S98 19 (x9 : Int32).toNatClampNeg (y8 + r98)) fun S102 => (self S102 (x9 + (1 : Int32)))))) (fun S _ => ((), S)) n
set_option maxHeartbeats 4000000 in
set_option maxRecDepth 100000 in
theorem l_Model_polygon_60 {X : gx_M} {A : Nat → Prop}  (F : gw_F X l prog_8_method_38_code 11 none "StageMachineModel" gTs (gw_rm 3) D gCl (gTys cI cB cC cZ) 20 ad A) (a3 : Int32) (y6 : Int32) (y7 : Int32) (y8 : Int32) (hl6 : vp_in y6 16) : ∀ (n : Nat) (S : gw_S) (x9 : Int32), 0 < n → (y6 : Int32).toInt - x9.toInt < (n : Int) → 0 ≤ x9.toInt → rOK S → gw_V X (gw_P D gCl 20 ad (rE ad cI cB cZ)) A 11 gw_rV S 60 [(0, .ref (ad 0)), (3, .int a3), (6, .int y6), (7, .int y7), (8, .int y8), (9, .int x9)] [] (fl_Model_polygon_60 a3 y6 y7 y8 n S x9) := by
  intro n
  induction n with
  | zero => intro S x9 hn hf h0 hf_ok; exact absurd hn (Nat.lt_irrefl 0)
  | succ n ih =>
    intro S x9 hn hf h0 hf_ok
    refine gw_iload (pc := 60) F 5 d_Model_polygon_60 rfl ?_
    refine gw_iload (pc := 62) F 2 d_Model_polygon_62 rfl ?_
    refine gw_icmp_geS (pc := 64) (tgt := 109) F d_Model_polygon_64 (by decide) (fun h64 => ?_) (fun h64 => ?_)
    · refine gw_iconst (pc := 109) (v := (0 : Int32)) F d_Model_polygon_109 (by decide) ?_
      refine gw_istore (pc := 110) (lv' := [(9, .int (0 : Int32)), (0, .ref (ad 0)), (3, .int a3), (6, .int y6), (7, .int y7), (8, .int y8)]) F d_Model_polygon_110 (by decide) rfl ?_
      refine gw_lvs (lv' := [(0, .ref (ad 0)), (3, .int a3), (6, .int y6), (7, .int y7), (9, .int (0 : Int32))]) [1, 2, 3, 4, 0] rfl ?_
      exact l_Model_polygon_112  F a3 y6 y7 hl6 (gw_fu ((y6 : Int32).toInt - ((0 : Int32) : Int32).toInt)) S (0 : Int32) (gw_fu_pos _) (gw_fu_lt _) (by decide) hf_ok
    · refine gw_aload_n (pc := 67) F 0 d_Model_polygon_67 rfl rfl ?_
      refine rg_Model_right (pc := 68) F tw_437 d_Model_polygon_68 ?_
      refine gw_iload (pc := 71) F 5 d_Model_polygon_71 rfl ?_
      refine gw_iload (pc := 73) F 3 d_Model_polygon_73 rfl ?_
      refine gw_aload_n (pc := 75) F 0 d_Model_polygon_75 rfl rfl ?_
      refine gw_aload_n (pc := 76) F 0 d_Model_polygon_76 rfl rfl ?_
      refine gw_cV (pc := 77) (As := []) (rest := [.ref (ad 0), .int y7, .int x9, .ref (ad 17)]) F (c_Model_read (gw_FJ F) S hf_ok) cw_Model_read cv_Model_read tw_625 rfl (by decide) (by decide) (by decide) rE_Model rfl rfl rfl rfl (Nat.le_of_ble_eq_true rfl) d_Model_polygon_77 (gw_bI (P := fun r U => rOK U) (po_ok_Model_read S hf_ok) (fun r77 S77 p77 => ?_))
      refine gw_cV (pc := 80) (As := [.int r77]) (rest := [.int y7, .int x9, .ref (ad 17)]) F (c_Model_scaled (gw_FJ F) S77 r77) cw_Model_scaled cv_Model_scaled tw_633 rfl (by decide) (by decide) (by decide) rE_Model rfl rfl rfl rfl (Nat.le_of_ble_eq_true rfl) d_Model_polygon_80 (gw_bI (P := fun r U => rOK U) (po_ok_Model_scaled S77 r77 p77) (fun r80 S80 p80 => ?_))
      refine gw_iadd (pc := 83) F d_Model_polygon_83 ?_
      refine rs_MR (pc := 84) F (gw_inL hl6 h64 h0) d_Model_polygon_84 ?_
      refine gw_nS (fun S84 E84 => ?_)
      refine gw_aload_n (pc := 85) F 0 d_Model_polygon_85 rfl rfl ?_
      refine rg_Model_high (pc := 86) F tw_439 d_Model_polygon_86 ?_
      refine gw_iload (pc := 89) F 5 d_Model_polygon_89 rfl ?_
      refine gw_iload (pc := 91) F 4 d_Model_polygon_91 rfl ?_
      refine gw_aload_n (pc := 93) F 0 d_Model_polygon_93 rfl rfl ?_
      refine gw_aload_n (pc := 94) F 0 d_Model_polygon_94 rfl rfl ?_
      refine gw_cV (pc := 95) (As := []) (rest := [.ref (ad 0), .int y8, .int x9, .ref (ad 19)]) F (c_Model_read (gw_FJ F) S84 (rOK_c E84 p80 (by omega))) cw_Model_read cv_Model_read tw_625 rfl (by decide) (by decide) (by decide) rE_Model rfl rfl rfl rfl (Nat.le_of_ble_eq_true rfl) d_Model_polygon_95 (gw_bI (P := fun r U => rOK U) (po_ok_Model_read S84 (rOK_c E84 p80 (by omega))) (fun r95 S95 p95 => ?_))
      refine gw_cV (pc := 98) (As := [.int r95]) (rest := [.int y8, .int x9, .ref (ad 19)]) F (c_Model_scaled (gw_FJ F) S95 r95) cw_Model_scaled cv_Model_scaled tw_633 rfl (by decide) (by decide) (by decide) rE_Model rfl rfl rfl rfl (Nat.le_of_ble_eq_true rfl) d_Model_polygon_98 (gw_bI (P := fun r U => rOK U) (po_ok_Model_scaled S95 r95 p95) (fun r98 S98 p98 => ?_))
      refine gw_iadd (pc := 101) F d_Model_polygon_101 ?_
      refine rs_MH (pc := 102) F (gw_inL hl6 h64 h0) d_Model_polygon_102 ?_
      refine gw_nS (fun S102 E102 => ?_)
      refine gw_iinc (pc := 103) (v := (x9 + (1 : Int32))) (lv' := [(9, .int (x9 + (1 : Int32))), (0, .ref (ad 0)), (3, .int a3), (6, .int y6), (7, .int y7), (8, .int y8)]) F 5 d_Model_polygon_103 rfl (congrArg (HAdd.hAdd x9) (by decide)) (by decide) rfl ?_
      refine gw_goto (pc := 106) (tgt := 60) F d_Model_polygon_106 (by decide) ?_
      refine gw_lvs (lv' := [(0, .ref (ad 0)), (3, .int a3), (6, .int y6), (7, .int y7), (8, .int y8), (9, .int (x9 + (1 : Int32)))]) [1, 2, 3, 4, 5, 0] rfl ?_
      exact ih S102 (x9 + (1 : Int32)) (gw_stp h64 hf).1 (gw_stp h64 hf).2.1 (gw_stp0 h64 h0) (rOK_c E102 p98 (by omega))
noncomputable def f_Model_polygon   (S : gw_S) (a1 : Int32) (a2 : Int32) (a3 : Int32) : Unit × gw_S := (gw_b (f_Model_read S) fun r2 S2 => gw_b (f_Model_scaled S2 r2) fun r5 S5 => gw_b (f_Model_read S5) fun r12 S12 => gw_b (f_Model_scaled S12 r12) fun r15 S15 => gw_b (f_Model_read S15) fun r21 S21 => gw_n (r21 &&& (15 : Int32)) fun v27 => gw_b (f_Model_div S21 ((r5 : Int32).toInt64) (2 : Int64)) fun r36 S36 => gw_n (a1 - ((r36 : Int64).toInt32)) fun v41 => gw_b (f_Model_div S36 ((r15 : Int32).toInt64) (2 : Int64)) fun r50 S50 => gw_n (a2 - ((r50 : Int64).toInt32)) fun v55 => (fl_Model_polygon_60 a3 v27 v41 v55 (gw_fu ((v27 : Int32).toInt - ((0 : Int32) : Int32).toInt)) S50 (0 : Int32)))
set_option maxHeartbeats 4000000 in
set_option maxRecDepth 100000 in
theorem c_Model_polygon (hJ : gw_J 20 ad)   (S : gw_S) (a1 : Int32) (a2 : Int32) (a3 : Int32) (hf_ok : rOK S) : gw_M l y_Model_polygon prog_8_method_38_code 11 none gTs (gw_rm 3) D gCl (gTys cI cB cC cZ) 20 ad (rE ad cI cB cZ) gw_rV [.ref (ad 0), .int a1, .int a2, .int a3] S (f_Model_polygon S a1 a2 a3) := by
  refine gw_start gTs_ok (plainFor_of_name (by decide)) hJ (Nat.le_of_ble_eq_true rfl) (fun X A F => ?_)
  refine gw_lve (lv' := [(0, .ref (ad 0)), (1, .int a1), (2, .int a2), (3, .int a3)]) rfl ?_
  unfold f_Model_polygon
  refine gw_aload_n (pc := 0) F 0 d_Model_polygon_0 rfl rfl ?_
  refine gw_aload_n (pc := 1) F 0 d_Model_polygon_1 rfl rfl ?_
  refine gw_cV (pc := 2) (As := []) (rest := [.ref (ad 0)]) F (c_Model_read (gw_FJ F) S hf_ok) cw_Model_read cv_Model_read tw_625 rfl (by decide) (by decide) (by decide) rE_Model rfl rfl rfl rfl (Nat.le_of_ble_eq_true rfl) d_Model_polygon_2 (gw_bI (P := fun r U => rOK U) (po_ok_Model_read S hf_ok) (fun r2 S2 p2 => ?_))
  refine gw_cV (pc := 5) (As := [.int r2]) (rest := []) F (c_Model_scaled (gw_FJ F) S2 r2) cw_Model_scaled cv_Model_scaled tw_633 rfl (by decide) (by decide) (by decide) rE_Model rfl rfl rfl rfl (Nat.le_of_ble_eq_true rfl) d_Model_polygon_5 (gw_bI (P := fun r U => rOK U) (po_ok_Model_scaled S2 r2 p2) (fun r5 S5 p5 => ?_))
  refine gw_istore (pc := 8) (lv' := [(4, .int r5), (0, .ref (ad 0)), (1, .int a1), (2, .int a2), (3, .int a3)]) F d_Model_polygon_8 (by decide) rfl ?_
  refine gw_aload_n (pc := 10) F 1 d_Model_polygon_10 rfl rfl ?_
  refine gw_aload_n (pc := 11) F 1 d_Model_polygon_11 rfl rfl ?_
  refine gw_cV (pc := 12) (As := []) (rest := [.ref (ad 0)]) F (c_Model_read (gw_FJ F) S5 p5) cw_Model_read cv_Model_read tw_625 rfl (by decide) (by decide) (by decide) rE_Model rfl rfl rfl rfl (Nat.le_of_ble_eq_true rfl) d_Model_polygon_12 (gw_bI (P := fun r U => rOK U) (po_ok_Model_read S5 p5) (fun r12 S12 p12 => ?_))
  refine gw_cV (pc := 15) (As := [.int r12]) (rest := []) F (c_Model_scaled (gw_FJ F) S12 r12) cw_Model_scaled cv_Model_scaled tw_633 rfl (by decide) (by decide) (by decide) rE_Model rfl rfl rfl rfl (Nat.le_of_ble_eq_true rfl) d_Model_polygon_15 (gw_bI (P := fun r U => rOK U) (po_ok_Model_scaled S12 r12 p12) (fun r15 S15 p15 => ?_))
  refine gw_istore (pc := 18) (lv' := [(5, .int r15), (4, .int r5), (0, .ref (ad 0)), (1, .int a1), (2, .int a2), (3, .int a3)]) F d_Model_polygon_18 (by decide) rfl ?_
  refine gw_aload_n (pc := 20) F 2 d_Model_polygon_20 rfl rfl ?_
  refine gw_cV (pc := 21) (As := []) (rest := []) F (c_Model_read (gw_FJ F) S15 p15) cw_Model_read cv_Model_read tw_625 rfl (by decide) (by decide) (by decide) rE_Model rfl rfl rfl rfl (Nat.le_of_ble_eq_true rfl) d_Model_polygon_21 (gw_bI (P := fun r U => rOK U) (po_ok_Model_read S15 p15) (fun r21 S21 p21 => ?_))
  refine gw_bipush (pc := 24) (v := (15 : Int32)) F d_Model_polygon_24 (by decide) ?_
  refine gw_iand (pc := 26) F d_Model_polygon_26 ?_
  refine gw_nI (fun v27 e27 => ?_)
  refine gw_istore (pc := 27) (lv' := [(6, .int v27), (5, .int r15), (4, .int r5), (0, .ref (ad 0)), (1, .int a1), (2, .int a2), (3, .int a3)]) F d_Model_polygon_27 (by decide) rfl ?_
  refine gw_iload_n (pc := 29) F 4 d_Model_polygon_29 rfl rfl ?_
  refine gw_iload (pc := 30) F 2 d_Model_polygon_30 rfl ?_
  refine gw_i2l (pc := 32) F d_Model_polygon_32 ?_
  refine gw_ldc2 (pc := 33) (v := (2 : Int64)) F tw_641 d_Model_polygon_33 ?_
  refine gw_cS (pc := 36) (As := [.long ((r5 : Int32).toInt64), .long (2 : Int64)]) (rest := [.int a1]) F (c_Model_div (gw_FJ F) S21 ((r5 : Int32).toInt64) (2 : Int64) (by decide)) cw_Model_div cv_Model_div tw_638 rfl (by decide) (by decide) rfl rfl (Nat.le_of_ble_eq_true rfl) d_Model_polygon_36 (gw_bJ (P := fun r U => rOK U) (po_ok_Model_div S21 ((r5 : Int32).toInt64) (2 : Int64) p21 (by decide)) (fun r36 S36 p36 => ?_))
  refine gw_l2i (pc := 39) F d_Model_polygon_39 ?_
  refine gw_isub (pc := 40) F d_Model_polygon_40 ?_
  refine gw_nI (fun v41 e41 => ?_)
  refine gw_istore (pc := 41) (lv' := [(7, .int v41), (6, .int v27), (5, .int r15), (4, .int r5), (0, .ref (ad 0)), (1, .int a1), (2, .int a2), (3, .int a3)]) F d_Model_polygon_41 (by decide) rfl ?_
  refine gw_iload_n (pc := 43) F 6 d_Model_polygon_43 rfl rfl ?_
  refine gw_iload (pc := 44) F 2 d_Model_polygon_44 rfl ?_
  refine gw_i2l (pc := 46) F d_Model_polygon_46 ?_
  refine gw_ldc2 (pc := 47) (v := (2 : Int64)) F tw_641 d_Model_polygon_47 ?_
  refine gw_cS (pc := 50) (As := [.long ((r15 : Int32).toInt64), .long (2 : Int64)]) (rest := [.int a2]) F (c_Model_div (gw_FJ F) S36 ((r15 : Int32).toInt64) (2 : Int64) (by decide)) cw_Model_div cv_Model_div tw_638 rfl (by decide) (by decide) rfl rfl (Nat.le_of_ble_eq_true rfl) d_Model_polygon_50 (gw_bJ (P := fun r U => rOK U) (po_ok_Model_div S36 ((r15 : Int32).toInt64) (2 : Int64) p36 (by decide)) (fun r50 S50 p50 => ?_))
  refine gw_l2i (pc := 53) F d_Model_polygon_53 ?_
  refine gw_isub (pc := 54) F d_Model_polygon_54 ?_
  refine gw_nI (fun v55 e55 => ?_)
  refine gw_istore (pc := 55) (lv' := [(8, .int v55), (7, .int v41), (6, .int v27), (5, .int r15), (4, .int r5), (0, .ref (ad 0)), (1, .int a1), (2, .int a2), (3, .int a3)]) F d_Model_polygon_55 (by decide) rfl ?_
  refine gw_iconst (pc := 57) (v := (0 : Int32)) F d_Model_polygon_57 (by decide) ?_
  refine gw_istore (pc := 58) (lv' := [(9, .int (0 : Int32)), (8, .int v55), (7, .int v41), (6, .int v27), (5, .int r15), (4, .int r5), (0, .ref (ad 0)), (1, .int a1), (2, .int a2), (3, .int a3)]) F d_Model_polygon_58 (by decide) rfl ?_
  refine gw_lvs (lv' := [(0, .ref (ad 0)), (3, .int a3), (6, .int v27), (7, .int v41), (8, .int v55), (9, .int (0 : Int32))]) [6, 9, 3, 2, 1, 0] rfl ?_
  exact l_Model_polygon_60  F a3 v27 v41 v55 (gw_inE e27 (gw_and15 _)) (gw_fu ((v27 : Int32).toInt - ((0 : Int32) : Int32).toInt)) S50 (0 : Int32) (gw_fu_pos _) (gw_fu_lt _) (by decide) p50
set_option maxHeartbeats 4000000 in
set_option maxRecDepth 100000 in
theorem pl_ok_Model_polygon_158  (a3 : Int32) (y6 : Int32) (y9 : Int32) (h9i : vp_in y9 15) {K : gw_S → Unit × gw_S} (hK : ∀ S : gw_S, rOK S → rOK (K S).2) : ∀ (n : Nat) (S : gw_S) (x10 : Int32), 0 < n → ((40 : Int32) : Int32).toInt - x10.toInt < (n : Int) → 0 ≤ x10.toInt → rOK S → rOK (fl_Model_polygon_158 K a3 y6 y9 n S x10).2 := by
  intro n
  induction n with
  | zero => intro S x10 hn hf h0 hf_ok; exact absurd hn (Nat.lt_irrefl 0)
  | succ n ih =>
    intro S x10 hn hf h0 hf_ok
    refine po_if (Φ := fun p : Unit × gw_S => rOK p.2) (fun h162 => ?_) (fun h162 => ?_)
    · exact hK S hf_ok
    · refine po_if (Φ := fun p : Unit × gw_S => rOK p.2) (fun h174 => ?_) (fun h174 => ?_)
      · exact ih S (x10 + (1 : Int32)) (gw_stp h162 hf).1 (gw_stp h162 hf).2.1 (gw_stp0 h162 h0) hf_ok
      · refine po_if (Φ := fun p : Unit × gw_S => rOK p.2) (fun h188 => ?_) (fun h188 => ?_)
        · exact ih S (x10 + (1 : Int32)) (gw_stp h162 hf).1 (gw_stp h162 hf).2.1 (gw_stp0 h162 h0) hf_ok
        · refine po_b (Φ := fun p : Unit × gw_S => rOK p.2) (P := fun _ U => rOK U) (po_ok_Model_line S y9 x10 a3 hf_ok h9i (gw_inB (N := 40) (by decide) h162 h0) (rb_hh h174 h188)) (fun _ S197 p197 => ?_)
          exact ih S197 (x10 + (1 : Int32)) (gw_stp h162 hf).1 (gw_stp h162 hf).2.1 (gw_stp0 h162 h0) p197
set_option maxHeartbeats 4000000 in
set_option maxRecDepth 100000 in
theorem pl_ok_Model_polygon_146  (a3 : Int32) (y6 : Int32) (hl6 : vp_in y6 16) : ∀ (n : Nat) (S : gw_S) (x9 : Int32), 0 < n → (y6 : Int32).toInt - (x9 + (1 : Int32)).toInt < (n : Int) → (x9 + (1 : Int32)).toInt = x9.toInt + 1 → 0 ≤ x9.toInt → rOK S → rOK (fl_Model_polygon_146 a3 y6 n S x9).2 := by
  intro n
  induction n with
  | zero => intro S x9 hn hf h1 h0 hf_ok; exact absurd hn (Nat.lt_irrefl 0)
  | succ n ih =>
    intro S x9 hn hf h1 h0 hf_ok
    refine po_if (Φ := fun p : Unit × gw_S => rOK p.2) (fun h152 => ?_) (fun h152 => ?_)
    · exact hf_ok
    · refine pl_ok_Model_polygon_158 a3 y6 x9 (gw_inP hl6 h152 h1 h0) (fun Sc hc_ok => ?_) (gw_fu (((40 : Int32) : Int32).toInt - ((0 : Int32) : Int32).toInt)) S (0 : Int32) (gw_fu_pos _) (gw_fu_lt _) (by decide) hf_ok
      exact ih Sc (x9 + (1 : Int32)) (gw_stp h152 hf).1 (gw_stp h152 hf).2.1 (gw_lt1 h152) (gw_up1 h1 h0) hc_ok
set_option maxHeartbeats 4000000 in
set_option maxRecDepth 100000 in
theorem pl_ok_Model_polygon_112  (a3 : Int32) (y6 : Int32) (y7 : Int32) (hl6 : vp_in y6 16) : ∀ (n : Nat) (S : gw_S) (x9 : Int32), 0 < n → (y6 : Int32).toInt - x9.toInt < (n : Int) → 0 ≤ x9.toInt → rOK S → rOK (fl_Model_polygon_112 a3 y6 y7 n S x9).2 := by
  intro n
  induction n with
  | zero => intro S x9 hn hf h0 hf_ok; exact absurd hn (Nat.lt_irrefl 0)
  | succ n ih =>
    intro S x9 hn hf h0 hf_ok
    refine po_if (Φ := fun p : Unit × gw_S => rOK p.2) (fun h116 => ?_) (fun h116 => ?_)
    · exact pl_ok_Model_polygon_146 a3 y6 hl6 (gw_fu ((y6 : Int32).toInt - (((0 : Int32) : Int32) + (1 : Int32)).toInt)) S (0 : Int32) (gw_fu_pos _) (gw_fu_lt _) (by decide) (by decide) hf_ok
    · refine po_b (Φ := fun p : Unit × gw_S => rOK p.2) (P := fun r U => rOK U) (po_ok_Model_read S hf_ok) (fun r129 S129 p129 => ?_)
      refine po_b (Φ := fun p : Unit × gw_S => rOK p.2) (P := fun r U => rOK U) (po_ok_Model_scaled S129 r129 p129) (fun r132 S132 p132 => ?_)
      refine po_n (Φ := fun p : Unit × gw_S => rOK p.2) (fun S136 E136 => ?_)
      exact ih S136 (x9 + (1 : Int32)) (gw_stp h116 hf).1 (gw_stp h116 hf).2.1 (gw_stp0 h116 h0) (rOK_c E136 p132 (by omega))
set_option maxHeartbeats 4000000 in
set_option maxRecDepth 100000 in
theorem pl_ok_Model_polygon_60  (a3 : Int32) (y6 : Int32) (y7 : Int32) (y8 : Int32) (hl6 : vp_in y6 16) : ∀ (n : Nat) (S : gw_S) (x9 : Int32), 0 < n → (y6 : Int32).toInt - x9.toInt < (n : Int) → 0 ≤ x9.toInt → rOK S → rOK (fl_Model_polygon_60 a3 y6 y7 y8 n S x9).2 := by
  intro n
  induction n with
  | zero => intro S x9 hn hf h0 hf_ok; exact absurd hn (Nat.lt_irrefl 0)
  | succ n ih =>
    intro S x9 hn hf h0 hf_ok
    refine po_if (Φ := fun p : Unit × gw_S => rOK p.2) (fun h64 => ?_) (fun h64 => ?_)
    · exact pl_ok_Model_polygon_112 a3 y6 y7 hl6 (gw_fu ((y6 : Int32).toInt - ((0 : Int32) : Int32).toInt)) S (0 : Int32) (gw_fu_pos _) (gw_fu_lt _) (by decide) hf_ok
    · refine po_b (Φ := fun p : Unit × gw_S => rOK p.2) (P := fun r U => rOK U) (po_ok_Model_read S hf_ok) (fun r77 S77 p77 => ?_)
      refine po_b (Φ := fun p : Unit × gw_S => rOK p.2) (P := fun r U => rOK U) (po_ok_Model_scaled S77 r77 p77) (fun r80 S80 p80 => ?_)
      refine po_n (Φ := fun p : Unit × gw_S => rOK p.2) (fun S84 E84 => ?_)
      refine po_b (Φ := fun p : Unit × gw_S => rOK p.2) (P := fun r U => rOK U) (po_ok_Model_read S84 (rOK_c E84 p80 (by omega))) (fun r95 S95 p95 => ?_)
      refine po_b (Φ := fun p : Unit × gw_S => rOK p.2) (P := fun r U => rOK U) (po_ok_Model_scaled S95 r95 p95) (fun r98 S98 p98 => ?_)
      refine po_n (Φ := fun p : Unit × gw_S => rOK p.2) (fun S102 E102 => ?_)
      exact ih S102 (x9 + (1 : Int32)) (gw_stp h64 hf).1 (gw_stp h64 hf).2.1 (gw_stp0 h64 h0) (rOK_c E102 p98 (by omega))
set_option maxHeartbeats 4000000 in
set_option maxRecDepth 100000 in
theorem po_ok_Model_polygon   (S : gw_S) (a1 : Int32) (a2 : Int32) (a3 : Int32) (hf_ok : rOK S) : rOK (f_Model_polygon S a1 a2 a3).2 := by
  unfold f_Model_polygon
  refine po_b (Φ := fun p : Unit × gw_S => rOK p.2) (P := fun r U => rOK U) (po_ok_Model_read S hf_ok) (fun r2 S2 p2 => ?_)
  refine po_b (Φ := fun p : Unit × gw_S => rOK p.2) (P := fun r U => rOK U) (po_ok_Model_scaled S2 r2 p2) (fun r5 S5 p5 => ?_)
  refine po_b (Φ := fun p : Unit × gw_S => rOK p.2) (P := fun r U => rOK U) (po_ok_Model_read S5 p5) (fun r12 S12 p12 => ?_)
  refine po_b (Φ := fun p : Unit × gw_S => rOK p.2) (P := fun r U => rOK U) (po_ok_Model_scaled S12 r12 p12) (fun r15 S15 p15 => ?_)
  refine po_b (Φ := fun p : Unit × gw_S => rOK p.2) (P := fun r U => rOK U) (po_ok_Model_read S15 p15) (fun r21 S21 p21 => ?_)
  refine po_n (Φ := fun p : Unit × gw_S => rOK p.2) (fun v27 e27 => ?_)
  refine po_b (Φ := fun p : Unit × gw_S => rOK p.2) (P := fun r U => rOK U) (po_ok_Model_div S21 ((r5 : Int32).toInt64) (2 : Int64) p21 (by decide)) (fun r36 S36 p36 => ?_)
  refine po_n (Φ := fun p : Unit × gw_S => rOK p.2) (fun v41 e41 => ?_)
  refine po_b (Φ := fun p : Unit × gw_S => rOK p.2) (P := fun r U => rOK U) (po_ok_Model_div S36 ((r15 : Int32).toInt64) (2 : Int64) p36 (by decide)) (fun r50 S50 p50 => ?_)
  refine po_n (Φ := fun p : Unit × gw_S => rOK p.2) (fun v55 e55 => ?_)
  exact pl_ok_Model_polygon_60 a3 v27 v41 v55 (gw_inE e27 (gw_and15 _)) (gw_fu ((v27 : Int32).toInt - ((0 : Int32) : Int32).toInt)) S50 (0 : Int32) (gw_fu_pos _) (gw_fu_lt _) (by decide) p50
set_option maxHeartbeats 4000000 in
set_option maxRecDepth 100000 in
theorem pl_at_Model_polygon_158  (a3 : Int32) (y6 : Int32) (y9 : Int32) (h9i : vp_in y9 15) {K : gw_S → Unit × gw_S} (hK : ∀ S : gw_S, vp_in (S 0 18) 1024 → vp_in ((K S).2 0 18) 1024) : ∀ (n : Nat) (S : gw_S) (x10 : Int32), 0 < n → ((40 : Int32) : Int32).toInt - x10.toInt < (n : Int) → 0 ≤ x10.toInt → vp_in (S 0 18) 1024 → vp_in ((fl_Model_polygon_158 K a3 y6 y9 n S x10).2 0 18) 1024 := by
  intro n
  induction n with
  | zero => intro S x10 hn hf h0 hf_at; exact absurd hn (Nat.lt_irrefl 0)
  | succ n ih =>
    intro S x10 hn hf h0 hf_at
    refine po_if (Φ := fun p : Unit × gw_S => vp_in (p.2 0 18) 1024) (fun h162 => ?_) (fun h162 => ?_)
    · exact hK S hf_at
    · refine po_if (Φ := fun p : Unit × gw_S => vp_in (p.2 0 18) 1024) (fun h174 => ?_) (fun h174 => ?_)
      · exact ih S (x10 + (1 : Int32)) (gw_stp h162 hf).1 (gw_stp h162 hf).2.1 (gw_stp0 h162 h0) hf_at
      · refine po_if (Φ := fun p : Unit × gw_S => vp_in (p.2 0 18) 1024) (fun h188 => ?_) (fun h188 => ?_)
        · exact ih S (x10 + (1 : Int32)) (gw_stp h162 hf).1 (gw_stp h162 hf).2.1 (gw_stp0 h162 h0) hf_at
        · refine po_b (Φ := fun p : Unit × gw_S => vp_in (p.2 0 18) 1024) (P := fun _ U => vp_in (U 0 18) 1024) (po_at_Model_line S y9 x10 a3 hf_at h9i (gw_inB (N := 40) (by decide) h162 h0) (rb_hh h174 h188)) (fun _ S197 p197 => ?_)
          exact ih S197 (x10 + (1 : Int32)) (gw_stp h162 hf).1 (gw_stp h162 hf).2.1 (gw_stp0 h162 h0) p197
set_option maxHeartbeats 4000000 in
set_option maxRecDepth 100000 in
theorem pl_at_Model_polygon_146  (a3 : Int32) (y6 : Int32) (hl6 : vp_in y6 16) : ∀ (n : Nat) (S : gw_S) (x9 : Int32), 0 < n → (y6 : Int32).toInt - (x9 + (1 : Int32)).toInt < (n : Int) → (x9 + (1 : Int32)).toInt = x9.toInt + 1 → 0 ≤ x9.toInt → vp_in (S 0 18) 1024 → vp_in ((fl_Model_polygon_146 a3 y6 n S x9).2 0 18) 1024 := by
  intro n
  induction n with
  | zero => intro S x9 hn hf h1 h0 hf_at; exact absurd hn (Nat.lt_irrefl 0)
  | succ n ih =>
    intro S x9 hn hf h1 h0 hf_at
    refine po_if (Φ := fun p : Unit × gw_S => vp_in (p.2 0 18) 1024) (fun h152 => ?_) (fun h152 => ?_)
    · exact hf_at
    · refine pl_at_Model_polygon_158 a3 y6 x9 (gw_inP hl6 h152 h1 h0) (fun Sc hc_at => ?_) (gw_fu (((40 : Int32) : Int32).toInt - ((0 : Int32) : Int32).toInt)) S (0 : Int32) (gw_fu_pos _) (gw_fu_lt _) (by decide) hf_at
      exact ih Sc (x9 + (1 : Int32)) (gw_stp h152 hf).1 (gw_stp h152 hf).2.1 (gw_lt1 h152) (gw_up1 h1 h0) hc_at
set_option maxHeartbeats 4000000 in
set_option maxRecDepth 100000 in
theorem pl_at_Model_polygon_112  (a3 : Int32) (y6 : Int32) (y7 : Int32) (hl6 : vp_in y6 16) : ∀ (n : Nat) (S : gw_S) (x9 : Int32), 0 < n → (y6 : Int32).toInt - x9.toInt < (n : Int) → 0 ≤ x9.toInt → vp_in (S 0 18) 1024 → vp_in ((fl_Model_polygon_112 a3 y6 y7 n S x9).2 0 18) 1024 := by
  intro n
  induction n with
  | zero => intro S x9 hn hf h0 hf_at; exact absurd hn (Nat.lt_irrefl 0)
  | succ n ih =>
    intro S x9 hn hf h0 hf_at
    refine po_if (Φ := fun p : Unit × gw_S => vp_in (p.2 0 18) 1024) (fun h116 => ?_) (fun h116 => ?_)
    · exact pl_at_Model_polygon_146 a3 y6 hl6 (gw_fu ((y6 : Int32).toInt - (((0 : Int32) : Int32) + (1 : Int32)).toInt)) S (0 : Int32) (gw_fu_pos _) (gw_fu_lt _) (by decide) (by decide) hf_at
    · refine po_b (Φ := fun p : Unit × gw_S => vp_in (p.2 0 18) 1024) (P := fun r U => vp_in (U 0 18) 1024) (po_at_Model_read S hf_at) (fun r129 S129 p129 => ?_)
      refine po_b (Φ := fun p : Unit × gw_S => vp_in (p.2 0 18) 1024) (P := fun r U => vp_in (U 0 18) 1024) (po_at_Model_scaled S129 r129 p129) (fun r132 S132 p132 => ?_)
      refine po_n (Φ := fun p : Unit × gw_S => vp_in (p.2 0 18) 1024) (fun S136 E136 => ?_)
      exact ih S136 (x9 + (1 : Int32)) (gw_stp h116 hf).1 (gw_stp h116 hf).2.1 (gw_stp0 h116 h0) (rOK_keep (P := fun z => vp_in z 1024) E136 p132 (by omega))
set_option maxHeartbeats 4000000 in
set_option maxRecDepth 100000 in
theorem pl_at_Model_polygon_60  (a3 : Int32) (y6 : Int32) (y7 : Int32) (y8 : Int32) (hl6 : vp_in y6 16) : ∀ (n : Nat) (S : gw_S) (x9 : Int32), 0 < n → (y6 : Int32).toInt - x9.toInt < (n : Int) → 0 ≤ x9.toInt → vp_in (S 0 18) 1024 → vp_in ((fl_Model_polygon_60 a3 y6 y7 y8 n S x9).2 0 18) 1024 := by
  intro n
  induction n with
  | zero => intro S x9 hn hf h0 hf_at; exact absurd hn (Nat.lt_irrefl 0)
  | succ n ih =>
    intro S x9 hn hf h0 hf_at
    refine po_if (Φ := fun p : Unit × gw_S => vp_in (p.2 0 18) 1024) (fun h64 => ?_) (fun h64 => ?_)
    · exact pl_at_Model_polygon_112 a3 y6 y7 hl6 (gw_fu ((y6 : Int32).toInt - ((0 : Int32) : Int32).toInt)) S (0 : Int32) (gw_fu_pos _) (gw_fu_lt _) (by decide) hf_at
    · refine po_b (Φ := fun p : Unit × gw_S => vp_in (p.2 0 18) 1024) (P := fun r U => vp_in (U 0 18) 1024) (po_at_Model_read S hf_at) (fun r77 S77 p77 => ?_)
      refine po_b (Φ := fun p : Unit × gw_S => vp_in (p.2 0 18) 1024) (P := fun r U => vp_in (U 0 18) 1024) (po_at_Model_scaled S77 r77 p77) (fun r80 S80 p80 => ?_)
      refine po_n (Φ := fun p : Unit × gw_S => vp_in (p.2 0 18) 1024) (fun S84 E84 => ?_)
      refine po_b (Φ := fun p : Unit × gw_S => vp_in (p.2 0 18) 1024) (P := fun r U => vp_in (U 0 18) 1024) (po_at_Model_read S84 (rOK_keep (P := fun z => vp_in z 1024) E84 p80 (by omega))) (fun r95 S95 p95 => ?_)
      refine po_b (Φ := fun p : Unit × gw_S => vp_in (p.2 0 18) 1024) (P := fun r U => vp_in (U 0 18) 1024) (po_at_Model_scaled S95 r95 p95) (fun r98 S98 p98 => ?_)
      refine po_n (Φ := fun p : Unit × gw_S => vp_in (p.2 0 18) 1024) (fun S102 E102 => ?_)
      exact ih S102 (x9 + (1 : Int32)) (gw_stp h64 hf).1 (gw_stp h64 hf).2.1 (gw_stp0 h64 h0) (rOK_keep (P := fun z => vp_in z 1024) E102 p98 (by omega))
set_option maxHeartbeats 4000000 in
set_option maxRecDepth 100000 in
theorem po_at_Model_polygon   (S : gw_S) (a1 : Int32) (a2 : Int32) (a3 : Int32) (hf_at : vp_in (S 0 18) 1024) : vp_in ((f_Model_polygon S a1 a2 a3).2 0 18) 1024 := by
  unfold f_Model_polygon
  refine po_b (Φ := fun p : Unit × gw_S => vp_in (p.2 0 18) 1024) (P := fun r U => vp_in (U 0 18) 1024) (po_at_Model_read S hf_at) (fun r2 S2 p2 => ?_)
  refine po_b (Φ := fun p : Unit × gw_S => vp_in (p.2 0 18) 1024) (P := fun r U => vp_in (U 0 18) 1024) (po_at_Model_scaled S2 r2 p2) (fun r5 S5 p5 => ?_)
  refine po_b (Φ := fun p : Unit × gw_S => vp_in (p.2 0 18) 1024) (P := fun r U => vp_in (U 0 18) 1024) (po_at_Model_read S5 p5) (fun r12 S12 p12 => ?_)
  refine po_b (Φ := fun p : Unit × gw_S => vp_in (p.2 0 18) 1024) (P := fun r U => vp_in (U 0 18) 1024) (po_at_Model_scaled S12 r12 p12) (fun r15 S15 p15 => ?_)
  refine po_b (Φ := fun p : Unit × gw_S => vp_in (p.2 0 18) 1024) (P := fun r U => vp_in (U 0 18) 1024) (po_at_Model_read S15 p15) (fun r21 S21 p21 => ?_)
  refine po_n (Φ := fun p : Unit × gw_S => vp_in (p.2 0 18) 1024) (fun v27 e27 => ?_)
  refine po_b (Φ := fun p : Unit × gw_S => vp_in (p.2 0 18) 1024) (P := fun r U => vp_in (U 0 18) 1024) (po_at_Model_div S21 ((r5 : Int32).toInt64) (2 : Int64) p21 (by decide)) (fun r36 S36 p36 => ?_)
  refine po_n (Φ := fun p : Unit × gw_S => vp_in (p.2 0 18) 1024) (fun v41 e41 => ?_)
  refine po_b (Φ := fun p : Unit × gw_S => vp_in (p.2 0 18) 1024) (P := fun r U => vp_in (U 0 18) 1024) (po_at_Model_div S36 ((r15 : Int32).toInt64) (2 : Int64) p36 (by decide)) (fun r50 S50 p50 => ?_)
  refine po_n (Φ := fun p : Unit × gw_S => vp_in (p.2 0 18) 1024) (fun v55 e55 => ?_)
  exact pl_at_Model_polygon_60 a3 v27 v41 v55 (gw_inE e27 (gw_and15 _)) (gw_fu ((v27 : Int32).toInt - ((0 : Int32) : Int32).toInt)) S50 (0 : Int32) (gw_fu_pos _) (gw_fu_lt _) (by decide) p50
set_option maxHeartbeats 4000000 in
set_option maxRecDepth 100000 in
theorem pl_pz_Model_polygon_158 {ζ : Int32}  (a3 : Int32) (y6 : Int32) (y9 : Int32) (h9i : vp_in y9 15) {K : gw_S → Unit × gw_S} (hK : ∀ S : gw_S, S 0 23 = ζ → (K S).2 0 23 = ζ) : ∀ (n : Nat) (S : gw_S) (x10 : Int32), 0 < n → ((40 : Int32) : Int32).toInt - x10.toInt < (n : Int) → 0 ≤ x10.toInt → S 0 23 = ζ → (fl_Model_polygon_158 K a3 y6 y9 n S x10).2 0 23 = ζ := by
  intro n
  induction n with
  | zero => intro S x10 hn hf h0 hf_pz; exact absurd hn (Nat.lt_irrefl 0)
  | succ n ih =>
    intro S x10 hn hf h0 hf_pz
    refine po_if (Φ := fun p : Unit × gw_S => p.2 0 23 = ζ) (fun h162 => ?_) (fun h162 => ?_)
    · exact hK S hf_pz
    · refine po_if (Φ := fun p : Unit × gw_S => p.2 0 23 = ζ) (fun h174 => ?_) (fun h174 => ?_)
      · exact ih S (x10 + (1 : Int32)) (gw_stp h162 hf).1 (gw_stp h162 hf).2.1 (gw_stp0 h162 h0) hf_pz
      · refine po_if (Φ := fun p : Unit × gw_S => p.2 0 23 = ζ) (fun h188 => ?_) (fun h188 => ?_)
        · exact ih S (x10 + (1 : Int32)) (gw_stp h162 hf).1 (gw_stp h162 hf).2.1 (gw_stp0 h162 h0) hf_pz
        · refine po_b (Φ := fun p : Unit × gw_S => p.2 0 23 = ζ) (P := fun _ U => U 0 23 = ζ) (po_pz_Model_line S y9 x10 a3 hf_pz h9i (gw_inB (N := 40) (by decide) h162 h0) (rb_hh h174 h188)) (fun _ S197 p197 => ?_)
          exact ih S197 (x10 + (1 : Int32)) (gw_stp h162 hf).1 (gw_stp h162 hf).2.1 (gw_stp0 h162 h0) p197
set_option maxHeartbeats 4000000 in
set_option maxRecDepth 100000 in
theorem pl_pz_Model_polygon_146 {ζ : Int32}  (a3 : Int32) (y6 : Int32) (hl6 : vp_in y6 16) : ∀ (n : Nat) (S : gw_S) (x9 : Int32), 0 < n → (y6 : Int32).toInt - (x9 + (1 : Int32)).toInt < (n : Int) → (x9 + (1 : Int32)).toInt = x9.toInt + 1 → 0 ≤ x9.toInt → S 0 23 = ζ → (fl_Model_polygon_146 a3 y6 n S x9).2 0 23 = ζ := by
  intro n
  induction n with
  | zero => intro S x9 hn hf h1 h0 hf_pz; exact absurd hn (Nat.lt_irrefl 0)
  | succ n ih =>
    intro S x9 hn hf h1 h0 hf_pz
    refine po_if (Φ := fun p : Unit × gw_S => p.2 0 23 = ζ) (fun h152 => ?_) (fun h152 => ?_)
    · exact hf_pz
    · refine pl_pz_Model_polygon_158 a3 y6 x9 (gw_inP hl6 h152 h1 h0) (fun Sc hc_pz => ?_) (gw_fu (((40 : Int32) : Int32).toInt - ((0 : Int32) : Int32).toInt)) S (0 : Int32) (gw_fu_pos _) (gw_fu_lt _) (by decide) hf_pz
      exact ih Sc (x9 + (1 : Int32)) (gw_stp h152 hf).1 (gw_stp h152 hf).2.1 (gw_lt1 h152) (gw_up1 h1 h0) hc_pz
set_option maxHeartbeats 4000000 in
set_option maxRecDepth 100000 in
theorem pl_pz_Model_polygon_112 {ζ : Int32}  (a3 : Int32) (y6 : Int32) (y7 : Int32) (hl6 : vp_in y6 16) : ∀ (n : Nat) (S : gw_S) (x9 : Int32), 0 < n → (y6 : Int32).toInt - x9.toInt < (n : Int) → 0 ≤ x9.toInt → S 0 23 = ζ → (fl_Model_polygon_112 a3 y6 y7 n S x9).2 0 23 = ζ := by
  intro n
  induction n with
  | zero => intro S x9 hn hf h0 hf_pz; exact absurd hn (Nat.lt_irrefl 0)
  | succ n ih =>
    intro S x9 hn hf h0 hf_pz
    refine po_if (Φ := fun p : Unit × gw_S => p.2 0 23 = ζ) (fun h116 => ?_) (fun h116 => ?_)
    · exact pl_pz_Model_polygon_146 a3 y6 hl6 (gw_fu ((y6 : Int32).toInt - (((0 : Int32) : Int32) + (1 : Int32)).toInt)) S (0 : Int32) (gw_fu_pos _) (gw_fu_lt _) (by decide) (by decide) hf_pz
    · refine po_b (Φ := fun p : Unit × gw_S => p.2 0 23 = ζ) (P := fun r U => U 0 23 = ζ) (po_pz_Model_read S hf_pz) (fun r129 S129 p129 => ?_)
      refine po_b (Φ := fun p : Unit × gw_S => p.2 0 23 = ζ) (P := fun r U => U 0 23 = ζ) (po_pz_Model_scaled S129 r129 p129) (fun r132 S132 p132 => ?_)
      refine po_n (Φ := fun p : Unit × gw_S => p.2 0 23 = ζ) (fun S136 E136 => ?_)
      exact ih S136 (x9 + (1 : Int32)) (gw_stp h116 hf).1 (gw_stp h116 hf).2.1 (gw_stp0 h116 h0) (rOK_keep (P := fun z => z = ζ) E136 p132 (by omega))
set_option maxHeartbeats 4000000 in
set_option maxRecDepth 100000 in
theorem pl_pz_Model_polygon_60 {ζ : Int32}  (a3 : Int32) (y6 : Int32) (y7 : Int32) (y8 : Int32) (hl6 : vp_in y6 16) : ∀ (n : Nat) (S : gw_S) (x9 : Int32), 0 < n → (y6 : Int32).toInt - x9.toInt < (n : Int) → 0 ≤ x9.toInt → S 0 23 = ζ → (fl_Model_polygon_60 a3 y6 y7 y8 n S x9).2 0 23 = ζ := by
  intro n
  induction n with
  | zero => intro S x9 hn hf h0 hf_pz; exact absurd hn (Nat.lt_irrefl 0)
  | succ n ih =>
    intro S x9 hn hf h0 hf_pz
    refine po_if (Φ := fun p : Unit × gw_S => p.2 0 23 = ζ) (fun h64 => ?_) (fun h64 => ?_)
    · exact pl_pz_Model_polygon_112 a3 y6 y7 hl6 (gw_fu ((y6 : Int32).toInt - ((0 : Int32) : Int32).toInt)) S (0 : Int32) (gw_fu_pos _) (gw_fu_lt _) (by decide) hf_pz
    · refine po_b (Φ := fun p : Unit × gw_S => p.2 0 23 = ζ) (P := fun r U => U 0 23 = ζ) (po_pz_Model_read S hf_pz) (fun r77 S77 p77 => ?_)
      refine po_b (Φ := fun p : Unit × gw_S => p.2 0 23 = ζ) (P := fun r U => U 0 23 = ζ) (po_pz_Model_scaled S77 r77 p77) (fun r80 S80 p80 => ?_)
      refine po_n (Φ := fun p : Unit × gw_S => p.2 0 23 = ζ) (fun S84 E84 => ?_)
      refine po_b (Φ := fun p : Unit × gw_S => p.2 0 23 = ζ) (P := fun r U => U 0 23 = ζ) (po_pz_Model_read S84 (rOK_keep (P := fun z => z = ζ) E84 p80 (by omega))) (fun r95 S95 p95 => ?_)
      refine po_b (Φ := fun p : Unit × gw_S => p.2 0 23 = ζ) (P := fun r U => U 0 23 = ζ) (po_pz_Model_scaled S95 r95 p95) (fun r98 S98 p98 => ?_)
      refine po_n (Φ := fun p : Unit × gw_S => p.2 0 23 = ζ) (fun S102 E102 => ?_)
      exact ih S102 (x9 + (1 : Int32)) (gw_stp h64 hf).1 (gw_stp h64 hf).2.1 (gw_stp0 h64 h0) (rOK_keep (P := fun z => z = ζ) E102 p98 (by omega))
set_option maxHeartbeats 4000000 in
set_option maxRecDepth 100000 in
theorem po_pz_Model_polygon {ζ : Int32}   (S : gw_S) (a1 : Int32) (a2 : Int32) (a3 : Int32) (hf_pz : S 0 23 = ζ) : (f_Model_polygon S a1 a2 a3).2 0 23 = ζ := by
  unfold f_Model_polygon
  refine po_b (Φ := fun p : Unit × gw_S => p.2 0 23 = ζ) (P := fun r U => U 0 23 = ζ) (po_pz_Model_read S hf_pz) (fun r2 S2 p2 => ?_)
  refine po_b (Φ := fun p : Unit × gw_S => p.2 0 23 = ζ) (P := fun r U => U 0 23 = ζ) (po_pz_Model_scaled S2 r2 p2) (fun r5 S5 p5 => ?_)
  refine po_b (Φ := fun p : Unit × gw_S => p.2 0 23 = ζ) (P := fun r U => U 0 23 = ζ) (po_pz_Model_read S5 p5) (fun r12 S12 p12 => ?_)
  refine po_b (Φ := fun p : Unit × gw_S => p.2 0 23 = ζ) (P := fun r U => U 0 23 = ζ) (po_pz_Model_scaled S12 r12 p12) (fun r15 S15 p15 => ?_)
  refine po_b (Φ := fun p : Unit × gw_S => p.2 0 23 = ζ) (P := fun r U => U 0 23 = ζ) (po_pz_Model_read S15 p15) (fun r21 S21 p21 => ?_)
  refine po_n (Φ := fun p : Unit × gw_S => p.2 0 23 = ζ) (fun v27 e27 => ?_)
  refine po_b (Φ := fun p : Unit × gw_S => p.2 0 23 = ζ) (P := fun r U => U 0 23 = ζ) (po_pz_Model_div S21 ((r5 : Int32).toInt64) (2 : Int64) p21 (by decide)) (fun r36 S36 p36 => ?_)
  refine po_n (Φ := fun p : Unit × gw_S => p.2 0 23 = ζ) (fun v41 e41 => ?_)
  refine po_b (Φ := fun p : Unit × gw_S => p.2 0 23 = ζ) (P := fun r U => U 0 23 = ζ) (po_pz_Model_div S36 ((r15 : Int32).toInt64) (2 : Int64) p36 (by decide)) (fun r50 S50 p50 => ?_)
  refine po_n (Φ := fun p : Unit × gw_S => p.2 0 23 = ζ) (fun v55 e55 => ?_)
  exact pl_pz_Model_polygon_60 a3 v27 v41 v55 (gw_inE e27 (gw_and15 _)) (gw_fu ((v27 : Int32).toInt - ((0 : Int32) : Int32).toInt)) S50 (0 : Int32) (gw_fu_pos _) (gw_fu_lt _) (by decide) p50
set_option maxHeartbeats 4000000 in
set_option maxRecDepth 100000 in
theorem pl_dz_Model_polygon_158 {δ : Int32}  (a3 : Int32) (y6 : Int32) (y9 : Int32) (h9i : vp_in y9 15) {K : gw_S → Unit × gw_S} (hK : ∀ S : gw_S, S 0 21 = δ → (K S).2 0 21 = δ) : ∀ (n : Nat) (S : gw_S) (x10 : Int32), 0 < n → ((40 : Int32) : Int32).toInt - x10.toInt < (n : Int) → 0 ≤ x10.toInt → S 0 21 = δ → (fl_Model_polygon_158 K a3 y6 y9 n S x10).2 0 21 = δ := by
  intro n
  induction n with
  | zero => intro S x10 hn hf h0 hf_dz; exact absurd hn (Nat.lt_irrefl 0)
  | succ n ih =>
    intro S x10 hn hf h0 hf_dz
    refine po_if (Φ := fun p : Unit × gw_S => p.2 0 21 = δ) (fun h162 => ?_) (fun h162 => ?_)
    · exact hK S hf_dz
    · refine po_if (Φ := fun p : Unit × gw_S => p.2 0 21 = δ) (fun h174 => ?_) (fun h174 => ?_)
      · exact ih S (x10 + (1 : Int32)) (gw_stp h162 hf).1 (gw_stp h162 hf).2.1 (gw_stp0 h162 h0) hf_dz
      · refine po_if (Φ := fun p : Unit × gw_S => p.2 0 21 = δ) (fun h188 => ?_) (fun h188 => ?_)
        · exact ih S (x10 + (1 : Int32)) (gw_stp h162 hf).1 (gw_stp h162 hf).2.1 (gw_stp0 h162 h0) hf_dz
        · refine po_b (Φ := fun p : Unit × gw_S => p.2 0 21 = δ) (P := fun _ U => U 0 21 = δ) (po_dz_Model_line S y9 x10 a3 hf_dz h9i (gw_inB (N := 40) (by decide) h162 h0) (rb_hh h174 h188)) (fun _ S197 p197 => ?_)
          exact ih S197 (x10 + (1 : Int32)) (gw_stp h162 hf).1 (gw_stp h162 hf).2.1 (gw_stp0 h162 h0) p197
set_option maxHeartbeats 4000000 in
set_option maxRecDepth 100000 in
theorem pl_dz_Model_polygon_146 {δ : Int32}  (a3 : Int32) (y6 : Int32) (hl6 : vp_in y6 16) : ∀ (n : Nat) (S : gw_S) (x9 : Int32), 0 < n → (y6 : Int32).toInt - (x9 + (1 : Int32)).toInt < (n : Int) → (x9 + (1 : Int32)).toInt = x9.toInt + 1 → 0 ≤ x9.toInt → S 0 21 = δ → (fl_Model_polygon_146 a3 y6 n S x9).2 0 21 = δ := by
  intro n
  induction n with
  | zero => intro S x9 hn hf h1 h0 hf_dz; exact absurd hn (Nat.lt_irrefl 0)
  | succ n ih =>
    intro S x9 hn hf h1 h0 hf_dz
    refine po_if (Φ := fun p : Unit × gw_S => p.2 0 21 = δ) (fun h152 => ?_) (fun h152 => ?_)
    · exact hf_dz
    · refine pl_dz_Model_polygon_158 a3 y6 x9 (gw_inP hl6 h152 h1 h0) (fun Sc hc_dz => ?_) (gw_fu (((40 : Int32) : Int32).toInt - ((0 : Int32) : Int32).toInt)) S (0 : Int32) (gw_fu_pos _) (gw_fu_lt _) (by decide) hf_dz
      exact ih Sc (x9 + (1 : Int32)) (gw_stp h152 hf).1 (gw_stp h152 hf).2.1 (gw_lt1 h152) (gw_up1 h1 h0) hc_dz
set_option maxHeartbeats 4000000 in
set_option maxRecDepth 100000 in
theorem pl_dz_Model_polygon_112 {δ : Int32}  (a3 : Int32) (y6 : Int32) (y7 : Int32) (hl6 : vp_in y6 16) : ∀ (n : Nat) (S : gw_S) (x9 : Int32), 0 < n → (y6 : Int32).toInt - x9.toInt < (n : Int) → 0 ≤ x9.toInt → S 0 21 = δ → (fl_Model_polygon_112 a3 y6 y7 n S x9).2 0 21 = δ := by
  intro n
  induction n with
  | zero => intro S x9 hn hf h0 hf_dz; exact absurd hn (Nat.lt_irrefl 0)
  | succ n ih =>
    intro S x9 hn hf h0 hf_dz
    refine po_if (Φ := fun p : Unit × gw_S => p.2 0 21 = δ) (fun h116 => ?_) (fun h116 => ?_)
    · exact pl_dz_Model_polygon_146 a3 y6 hl6 (gw_fu ((y6 : Int32).toInt - (((0 : Int32) : Int32) + (1 : Int32)).toInt)) S (0 : Int32) (gw_fu_pos _) (gw_fu_lt _) (by decide) (by decide) hf_dz
    · refine po_b (Φ := fun p : Unit × gw_S => p.2 0 21 = δ) (P := fun r U => U 0 21 = δ) (po_dz_Model_read S hf_dz) (fun r129 S129 p129 => ?_)
      refine po_b (Φ := fun p : Unit × gw_S => p.2 0 21 = δ) (P := fun r U => U 0 21 = δ) (po_dz_Model_scaled S129 r129 p129) (fun r132 S132 p132 => ?_)
      refine po_n (Φ := fun p : Unit × gw_S => p.2 0 21 = δ) (fun S136 E136 => ?_)
      exact ih S136 (x9 + (1 : Int32)) (gw_stp h116 hf).1 (gw_stp h116 hf).2.1 (gw_stp0 h116 h0) (rOK_keep (P := fun z => z = δ) E136 p132 (by omega))
set_option maxHeartbeats 4000000 in
set_option maxRecDepth 100000 in
theorem pl_dz_Model_polygon_60 {δ : Int32}  (a3 : Int32) (y6 : Int32) (y7 : Int32) (y8 : Int32) (hl6 : vp_in y6 16) : ∀ (n : Nat) (S : gw_S) (x9 : Int32), 0 < n → (y6 : Int32).toInt - x9.toInt < (n : Int) → 0 ≤ x9.toInt → S 0 21 = δ → (fl_Model_polygon_60 a3 y6 y7 y8 n S x9).2 0 21 = δ := by
  intro n
  induction n with
  | zero => intro S x9 hn hf h0 hf_dz; exact absurd hn (Nat.lt_irrefl 0)
  | succ n ih =>
    intro S x9 hn hf h0 hf_dz
    refine po_if (Φ := fun p : Unit × gw_S => p.2 0 21 = δ) (fun h64 => ?_) (fun h64 => ?_)
    · exact pl_dz_Model_polygon_112 a3 y6 y7 hl6 (gw_fu ((y6 : Int32).toInt - ((0 : Int32) : Int32).toInt)) S (0 : Int32) (gw_fu_pos _) (gw_fu_lt _) (by decide) hf_dz
    · refine po_b (Φ := fun p : Unit × gw_S => p.2 0 21 = δ) (P := fun r U => U 0 21 = δ) (po_dz_Model_read S hf_dz) (fun r77 S77 p77 => ?_)
      refine po_b (Φ := fun p : Unit × gw_S => p.2 0 21 = δ) (P := fun r U => U 0 21 = δ) (po_dz_Model_scaled S77 r77 p77) (fun r80 S80 p80 => ?_)
      refine po_n (Φ := fun p : Unit × gw_S => p.2 0 21 = δ) (fun S84 E84 => ?_)
      refine po_b (Φ := fun p : Unit × gw_S => p.2 0 21 = δ) (P := fun r U => U 0 21 = δ) (po_dz_Model_read S84 (rOK_keep (P := fun z => z = δ) E84 p80 (by omega))) (fun r95 S95 p95 => ?_)
      refine po_b (Φ := fun p : Unit × gw_S => p.2 0 21 = δ) (P := fun r U => U 0 21 = δ) (po_dz_Model_scaled S95 r95 p95) (fun r98 S98 p98 => ?_)
      refine po_n (Φ := fun p : Unit × gw_S => p.2 0 21 = δ) (fun S102 E102 => ?_)
      exact ih S102 (x9 + (1 : Int32)) (gw_stp h64 hf).1 (gw_stp h64 hf).2.1 (gw_stp0 h64 h0) (rOK_keep (P := fun z => z = δ) E102 p98 (by omega))
set_option maxHeartbeats 4000000 in
set_option maxRecDepth 100000 in
theorem po_dz_Model_polygon {δ : Int32}   (S : gw_S) (a1 : Int32) (a2 : Int32) (a3 : Int32) (hf_dz : S 0 21 = δ) : (f_Model_polygon S a1 a2 a3).2 0 21 = δ := by
  unfold f_Model_polygon
  refine po_b (Φ := fun p : Unit × gw_S => p.2 0 21 = δ) (P := fun r U => U 0 21 = δ) (po_dz_Model_read S hf_dz) (fun r2 S2 p2 => ?_)
  refine po_b (Φ := fun p : Unit × gw_S => p.2 0 21 = δ) (P := fun r U => U 0 21 = δ) (po_dz_Model_scaled S2 r2 p2) (fun r5 S5 p5 => ?_)
  refine po_b (Φ := fun p : Unit × gw_S => p.2 0 21 = δ) (P := fun r U => U 0 21 = δ) (po_dz_Model_read S5 p5) (fun r12 S12 p12 => ?_)
  refine po_b (Φ := fun p : Unit × gw_S => p.2 0 21 = δ) (P := fun r U => U 0 21 = δ) (po_dz_Model_scaled S12 r12 p12) (fun r15 S15 p15 => ?_)
  refine po_b (Φ := fun p : Unit × gw_S => p.2 0 21 = δ) (P := fun r U => U 0 21 = δ) (po_dz_Model_read S15 p15) (fun r21 S21 p21 => ?_)
  refine po_n (Φ := fun p : Unit × gw_S => p.2 0 21 = δ) (fun v27 e27 => ?_)
  refine po_b (Φ := fun p : Unit × gw_S => p.2 0 21 = δ) (P := fun r U => U 0 21 = δ) (po_dz_Model_div S21 ((r5 : Int32).toInt64) (2 : Int64) p21 (by decide)) (fun r36 S36 p36 => ?_)
  refine po_n (Φ := fun p : Unit × gw_S => p.2 0 21 = δ) (fun v41 e41 => ?_)
  refine po_b (Φ := fun p : Unit × gw_S => p.2 0 21 = δ) (P := fun r U => U 0 21 = δ) (po_dz_Model_div S36 ((r15 : Int32).toInt64) (2 : Int64) p36 (by decide)) (fun r50 S50 p50 => ?_)
  refine po_n (Φ := fun p : Unit × gw_S => p.2 0 21 = δ) (fun v55 e55 => ?_)
  exact pl_dz_Model_polygon_60 a3 v27 v41 v55 (gw_inE e27 (gw_and15 _)) (gw_fu ((v27 : Int32).toInt - ((0 : Int32) : Int32).toInt)) S50 (0 : Int32) (gw_fu_pos _) (gw_fu_lt _) (by decide) p50
set_option maxHeartbeats 4000000 in
set_option maxRecDepth 100000 in
theorem pl_wz_Model_polygon_158 {ω : Nat → Int32}  (a3 : Int32) (y6 : Int32) (y9 : Int32) (h9i : vp_in y9 15) {K : gw_S → Unit × gw_S} (hK : ∀ S : gw_S, S 16 = ω → (K S).2 16 = ω) : ∀ (n : Nat) (S : gw_S) (x10 : Int32), 0 < n → ((40 : Int32) : Int32).toInt - x10.toInt < (n : Int) → 0 ≤ x10.toInt → S 16 = ω → (fl_Model_polygon_158 K a3 y6 y9 n S x10).2 16 = ω := by
  intro n
  induction n with
  | zero => intro S x10 hn hf h0 hf_wz; exact absurd hn (Nat.lt_irrefl 0)
  | succ n ih =>
    intro S x10 hn hf h0 hf_wz
    refine po_if (Φ := fun p : Unit × gw_S => p.2 16 = ω) (fun h162 => ?_) (fun h162 => ?_)
    · exact hK S hf_wz
    · refine po_if (Φ := fun p : Unit × gw_S => p.2 16 = ω) (fun h174 => ?_) (fun h174 => ?_)
      · exact ih S (x10 + (1 : Int32)) (gw_stp h162 hf).1 (gw_stp h162 hf).2.1 (gw_stp0 h162 h0) hf_wz
      · refine po_if (Φ := fun p : Unit × gw_S => p.2 16 = ω) (fun h188 => ?_) (fun h188 => ?_)
        · exact ih S (x10 + (1 : Int32)) (gw_stp h162 hf).1 (gw_stp h162 hf).2.1 (gw_stp0 h162 h0) hf_wz
        · refine po_b (Φ := fun p : Unit × gw_S => p.2 16 = ω) (P := fun _ U => U 16 = ω) (po_wz_Model_line S y9 x10 a3 hf_wz h9i (gw_inB (N := 40) (by decide) h162 h0) (rb_hh h174 h188)) (fun _ S197 p197 => ?_)
          exact ih S197 (x10 + (1 : Int32)) (gw_stp h162 hf).1 (gw_stp h162 hf).2.1 (gw_stp0 h162 h0) p197
set_option maxHeartbeats 4000000 in
set_option maxRecDepth 100000 in
theorem pl_wz_Model_polygon_146 {ω : Nat → Int32}  (a3 : Int32) (y6 : Int32) (hl6 : vp_in y6 16) : ∀ (n : Nat) (S : gw_S) (x9 : Int32), 0 < n → (y6 : Int32).toInt - (x9 + (1 : Int32)).toInt < (n : Int) → (x9 + (1 : Int32)).toInt = x9.toInt + 1 → 0 ≤ x9.toInt → S 16 = ω → (fl_Model_polygon_146 a3 y6 n S x9).2 16 = ω := by
  intro n
  induction n with
  | zero => intro S x9 hn hf h1 h0 hf_wz; exact absurd hn (Nat.lt_irrefl 0)
  | succ n ih =>
    intro S x9 hn hf h1 h0 hf_wz
    refine po_if (Φ := fun p : Unit × gw_S => p.2 16 = ω) (fun h152 => ?_) (fun h152 => ?_)
    · exact hf_wz
    · refine pl_wz_Model_polygon_158 a3 y6 x9 (gw_inP hl6 h152 h1 h0) (fun Sc hc_wz => ?_) (gw_fu (((40 : Int32) : Int32).toInt - ((0 : Int32) : Int32).toInt)) S (0 : Int32) (gw_fu_pos _) (gw_fu_lt _) (by decide) hf_wz
      exact ih Sc (x9 + (1 : Int32)) (gw_stp h152 hf).1 (gw_stp h152 hf).2.1 (gw_lt1 h152) (gw_up1 h1 h0) hc_wz
set_option maxHeartbeats 4000000 in
set_option maxRecDepth 100000 in
theorem pl_wz_Model_polygon_112 {ω : Nat → Int32}  (a3 : Int32) (y6 : Int32) (y7 : Int32) (hl6 : vp_in y6 16) : ∀ (n : Nat) (S : gw_S) (x9 : Int32), 0 < n → (y6 : Int32).toInt - x9.toInt < (n : Int) → 0 ≤ x9.toInt → S 16 = ω → (fl_Model_polygon_112 a3 y6 y7 n S x9).2 16 = ω := by
  intro n
  induction n with
  | zero => intro S x9 hn hf h0 hf_wz; exact absurd hn (Nat.lt_irrefl 0)
  | succ n ih =>
    intro S x9 hn hf h0 hf_wz
    refine po_if (Φ := fun p : Unit × gw_S => p.2 16 = ω) (fun h116 => ?_) (fun h116 => ?_)
    · exact pl_wz_Model_polygon_146 a3 y6 hl6 (gw_fu ((y6 : Int32).toInt - (((0 : Int32) : Int32) + (1 : Int32)).toInt)) S (0 : Int32) (gw_fu_pos _) (gw_fu_lt _) (by decide) (by decide) hf_wz
    · refine po_b (Φ := fun p : Unit × gw_S => p.2 16 = ω) (P := fun r U => U 16 = ω) (po_wz_Model_read S hf_wz) (fun r129 S129 p129 => ?_)
      refine po_b (Φ := fun p : Unit × gw_S => p.2 16 = ω) (P := fun r U => U 16 = ω) (po_wz_Model_scaled S129 r129 p129) (fun r132 S132 p132 => ?_)
      refine po_n (Φ := fun p : Unit × gw_S => p.2 16 = ω) (fun S136 E136 => ?_)
      exact ih S136 (x9 + (1 : Int32)) (gw_stp h116 hf).1 (gw_stp h116 hf).2.1 (gw_stp0 h116 h0) (rWk E136 p132 (by omega))
set_option maxHeartbeats 4000000 in
set_option maxRecDepth 100000 in
theorem pl_wz_Model_polygon_60 {ω : Nat → Int32}  (a3 : Int32) (y6 : Int32) (y7 : Int32) (y8 : Int32) (hl6 : vp_in y6 16) : ∀ (n : Nat) (S : gw_S) (x9 : Int32), 0 < n → (y6 : Int32).toInt - x9.toInt < (n : Int) → 0 ≤ x9.toInt → S 16 = ω → (fl_Model_polygon_60 a3 y6 y7 y8 n S x9).2 16 = ω := by
  intro n
  induction n with
  | zero => intro S x9 hn hf h0 hf_wz; exact absurd hn (Nat.lt_irrefl 0)
  | succ n ih =>
    intro S x9 hn hf h0 hf_wz
    refine po_if (Φ := fun p : Unit × gw_S => p.2 16 = ω) (fun h64 => ?_) (fun h64 => ?_)
    · exact pl_wz_Model_polygon_112 a3 y6 y7 hl6 (gw_fu ((y6 : Int32).toInt - ((0 : Int32) : Int32).toInt)) S (0 : Int32) (gw_fu_pos _) (gw_fu_lt _) (by decide) hf_wz
    · refine po_b (Φ := fun p : Unit × gw_S => p.2 16 = ω) (P := fun r U => U 16 = ω) (po_wz_Model_read S hf_wz) (fun r77 S77 p77 => ?_)
      refine po_b (Φ := fun p : Unit × gw_S => p.2 16 = ω) (P := fun r U => U 16 = ω) (po_wz_Model_scaled S77 r77 p77) (fun r80 S80 p80 => ?_)
      refine po_n (Φ := fun p : Unit × gw_S => p.2 16 = ω) (fun S84 E84 => ?_)
      refine po_b (Φ := fun p : Unit × gw_S => p.2 16 = ω) (P := fun r U => U 16 = ω) (po_wz_Model_read S84 (rWk E84 p80 (by omega))) (fun r95 S95 p95 => ?_)
      refine po_b (Φ := fun p : Unit × gw_S => p.2 16 = ω) (P := fun r U => U 16 = ω) (po_wz_Model_scaled S95 r95 p95) (fun r98 S98 p98 => ?_)
      refine po_n (Φ := fun p : Unit × gw_S => p.2 16 = ω) (fun S102 E102 => ?_)
      exact ih S102 (x9 + (1 : Int32)) (gw_stp h64 hf).1 (gw_stp h64 hf).2.1 (gw_stp0 h64 h0) (rWk E102 p98 (by omega))
set_option maxHeartbeats 4000000 in
set_option maxRecDepth 100000 in
theorem po_wz_Model_polygon {ω : Nat → Int32}   (S : gw_S) (a1 : Int32) (a2 : Int32) (a3 : Int32) (hf_wz : S 16 = ω) : (f_Model_polygon S a1 a2 a3).2 16 = ω := by
  unfold f_Model_polygon
  refine po_b (Φ := fun p : Unit × gw_S => p.2 16 = ω) (P := fun r U => U 16 = ω) (po_wz_Model_read S hf_wz) (fun r2 S2 p2 => ?_)
  refine po_b (Φ := fun p : Unit × gw_S => p.2 16 = ω) (P := fun r U => U 16 = ω) (po_wz_Model_scaled S2 r2 p2) (fun r5 S5 p5 => ?_)
  refine po_b (Φ := fun p : Unit × gw_S => p.2 16 = ω) (P := fun r U => U 16 = ω) (po_wz_Model_read S5 p5) (fun r12 S12 p12 => ?_)
  refine po_b (Φ := fun p : Unit × gw_S => p.2 16 = ω) (P := fun r U => U 16 = ω) (po_wz_Model_scaled S12 r12 p12) (fun r15 S15 p15 => ?_)
  refine po_b (Φ := fun p : Unit × gw_S => p.2 16 = ω) (P := fun r U => U 16 = ω) (po_wz_Model_read S15 p15) (fun r21 S21 p21 => ?_)
  refine po_n (Φ := fun p : Unit × gw_S => p.2 16 = ω) (fun v27 e27 => ?_)
  refine po_b (Φ := fun p : Unit × gw_S => p.2 16 = ω) (P := fun r U => U 16 = ω) (po_wz_Model_div S21 ((r5 : Int32).toInt64) (2 : Int64) p21 (by decide)) (fun r36 S36 p36 => ?_)
  refine po_n (Φ := fun p : Unit × gw_S => p.2 16 = ω) (fun v41 e41 => ?_)
  refine po_b (Φ := fun p : Unit × gw_S => p.2 16 = ω) (P := fun r U => U 16 = ω) (po_wz_Model_div S36 ((r15 : Int32).toInt64) (2 : Int64) p36 (by decide)) (fun r50 S50 p50 => ?_)
  refine po_n (Φ := fun p : Unit × gw_S => p.2 16 = ω) (fun v55 e55 => ?_)
  exact pl_wz_Model_polygon_60 a3 v27 v41 v55 (gw_inE e27 (gw_and15 _)) (gw_fu ((v27 : Int32).toInt - ((0 : Int32) : Int32).toInt)) S50 (0 : Int32) (gw_fu_pos _) (gw_fu_lt _) (by decide) p50
set_option maxHeartbeats 4000000 in
set_option maxRecDepth 100000 in
theorem pl_st_Model_polygon_158  (a3 : Int32) (y6 : Int32) (y9 : Int32) (h9i : vp_in y9 15) {K : gw_S → Unit × gw_S} (hK : ∀ S : gw_S, rST S → rST (K S).2) : ∀ (n : Nat) (S : gw_S) (x10 : Int32), 0 < n → ((40 : Int32) : Int32).toInt - x10.toInt < (n : Int) → 0 ≤ x10.toInt → rST S → rST (fl_Model_polygon_158 K a3 y6 y9 n S x10).2 := by
  intro n
  induction n with
  | zero => intro S x10 hn hf h0 hf_st; exact absurd hn (Nat.lt_irrefl 0)
  | succ n ih =>
    intro S x10 hn hf h0 hf_st
    refine po_if (Φ := fun p : Unit × gw_S => rST p.2) (fun h162 => ?_) (fun h162 => ?_)
    · exact hK S hf_st
    · refine po_if (Φ := fun p : Unit × gw_S => rST p.2) (fun h174 => ?_) (fun h174 => ?_)
      · exact ih S (x10 + (1 : Int32)) (gw_stp h162 hf).1 (gw_stp h162 hf).2.1 (gw_stp0 h162 h0) hf_st
      · refine po_if (Φ := fun p : Unit × gw_S => rST p.2) (fun h188 => ?_) (fun h188 => ?_)
        · exact ih S (x10 + (1 : Int32)) (gw_stp h162 hf).1 (gw_stp h162 hf).2.1 (gw_stp0 h162 h0) hf_st
        · refine po_b (Φ := fun p : Unit × gw_S => rST p.2) (P := fun _ U => rST U) (po_st_Model_line S y9 x10 a3 hf_st h9i (gw_inB (N := 40) (by decide) h162 h0) (rb_hh h174 h188)) (fun _ S197 p197 => ?_)
          exact ih S197 (x10 + (1 : Int32)) (gw_stp h162 hf).1 (gw_stp h162 hf).2.1 (gw_stp0 h162 h0) p197
set_option maxHeartbeats 4000000 in
set_option maxRecDepth 100000 in
theorem pl_st_Model_polygon_146  (a3 : Int32) (y6 : Int32) (hl6 : vp_in y6 16) : ∀ (n : Nat) (S : gw_S) (x9 : Int32), 0 < n → (y6 : Int32).toInt - (x9 + (1 : Int32)).toInt < (n : Int) → (x9 + (1 : Int32)).toInt = x9.toInt + 1 → 0 ≤ x9.toInt → rST S → rST (fl_Model_polygon_146 a3 y6 n S x9).2 := by
  intro n
  induction n with
  | zero => intro S x9 hn hf h1 h0 hf_st; exact absurd hn (Nat.lt_irrefl 0)
  | succ n ih =>
    intro S x9 hn hf h1 h0 hf_st
    refine po_if (Φ := fun p : Unit × gw_S => rST p.2) (fun h152 => ?_) (fun h152 => ?_)
    · exact hf_st
    · refine pl_st_Model_polygon_158 a3 y6 x9 (gw_inP hl6 h152 h1 h0) (fun Sc hc_st => ?_) (gw_fu (((40 : Int32) : Int32).toInt - ((0 : Int32) : Int32).toInt)) S (0 : Int32) (gw_fu_pos _) (gw_fu_lt _) (by decide) hf_st
      exact ih Sc (x9 + (1 : Int32)) (gw_stp h152 hf).1 (gw_stp h152 hf).2.1 (gw_lt1 h152) (gw_up1 h1 h0) hc_st
set_option maxHeartbeats 4000000 in
set_option maxRecDepth 100000 in
theorem pl_st_Model_polygon_112  (a3 : Int32) (y6 : Int32) (y7 : Int32) (hl6 : vp_in y6 16) : ∀ (n : Nat) (S : gw_S) (x9 : Int32), 0 < n → (y6 : Int32).toInt - x9.toInt < (n : Int) → 0 ≤ x9.toInt → rST S → rST (fl_Model_polygon_112 a3 y6 y7 n S x9).2 := by
  intro n
  induction n with
  | zero => intro S x9 hn hf h0 hf_st; exact absurd hn (Nat.lt_irrefl 0)
  | succ n ih =>
    intro S x9 hn hf h0 hf_st
    refine po_if (Φ := fun p : Unit × gw_S => rST p.2) (fun h116 => ?_) (fun h116 => ?_)
    · exact pl_st_Model_polygon_146 a3 y6 hl6 (gw_fu ((y6 : Int32).toInt - (((0 : Int32) : Int32) + (1 : Int32)).toInt)) S (0 : Int32) (gw_fu_pos _) (gw_fu_lt _) (by decide) (by decide) hf_st
    · refine po_b (Φ := fun p : Unit × gw_S => rST p.2) (P := fun r U => rST U) (po_st_Model_read S hf_st) (fun r129 S129 p129 => ?_)
      refine po_b (Φ := fun p : Unit × gw_S => rST p.2) (P := fun r U => rST U) (po_st_Model_scaled S129 r129 p129) (fun r132 S132 p132 => ?_)
      refine po_n (Φ := fun p : Unit × gw_S => rST p.2) (fun S136 E136 => ?_)
      exact ih S136 (x9 + (1 : Int32)) (gw_stp h116 hf).1 (gw_stp h116 hf).2.1 (gw_stp0 h116 h0) (rSTk E136 p132 (by omega) (by omega))
set_option maxHeartbeats 4000000 in
set_option maxRecDepth 100000 in
theorem pl_st_Model_polygon_60  (a3 : Int32) (y6 : Int32) (y7 : Int32) (y8 : Int32) (hl6 : vp_in y6 16) : ∀ (n : Nat) (S : gw_S) (x9 : Int32), 0 < n → (y6 : Int32).toInt - x9.toInt < (n : Int) → 0 ≤ x9.toInt → rST S → rST (fl_Model_polygon_60 a3 y6 y7 y8 n S x9).2 := by
  intro n
  induction n with
  | zero => intro S x9 hn hf h0 hf_st; exact absurd hn (Nat.lt_irrefl 0)
  | succ n ih =>
    intro S x9 hn hf h0 hf_st
    refine po_if (Φ := fun p : Unit × gw_S => rST p.2) (fun h64 => ?_) (fun h64 => ?_)
    · exact pl_st_Model_polygon_112 a3 y6 y7 hl6 (gw_fu ((y6 : Int32).toInt - ((0 : Int32) : Int32).toInt)) S (0 : Int32) (gw_fu_pos _) (gw_fu_lt _) (by decide) hf_st
    · refine po_b (Φ := fun p : Unit × gw_S => rST p.2) (P := fun r U => rST U) (po_st_Model_read S hf_st) (fun r77 S77 p77 => ?_)
      refine po_b (Φ := fun p : Unit × gw_S => rST p.2) (P := fun r U => rST U) (po_st_Model_scaled S77 r77 p77) (fun r80 S80 p80 => ?_)
      refine po_n (Φ := fun p : Unit × gw_S => rST p.2) (fun S84 E84 => ?_)
      refine po_b (Φ := fun p : Unit × gw_S => rST p.2) (P := fun r U => rST U) (po_st_Model_read S84 (rSTk E84 p80 (by omega) (by omega))) (fun r95 S95 p95 => ?_)
      refine po_b (Φ := fun p : Unit × gw_S => rST p.2) (P := fun r U => rST U) (po_st_Model_scaled S95 r95 p95) (fun r98 S98 p98 => ?_)
      refine po_n (Φ := fun p : Unit × gw_S => rST p.2) (fun S102 E102 => ?_)
      exact ih S102 (x9 + (1 : Int32)) (gw_stp h64 hf).1 (gw_stp h64 hf).2.1 (gw_stp0 h64 h0) (rSTk E102 p98 (by omega) (by omega))
set_option maxHeartbeats 4000000 in
set_option maxRecDepth 100000 in
theorem po_st_Model_polygon   (S : gw_S) (a1 : Int32) (a2 : Int32) (a3 : Int32) (hf_st : rST S) : rST (f_Model_polygon S a1 a2 a3).2 := by
  unfold f_Model_polygon
  refine po_b (Φ := fun p : Unit × gw_S => rST p.2) (P := fun r U => rST U) (po_st_Model_read S hf_st) (fun r2 S2 p2 => ?_)
  refine po_b (Φ := fun p : Unit × gw_S => rST p.2) (P := fun r U => rST U) (po_st_Model_scaled S2 r2 p2) (fun r5 S5 p5 => ?_)
  refine po_b (Φ := fun p : Unit × gw_S => rST p.2) (P := fun r U => rST U) (po_st_Model_read S5 p5) (fun r12 S12 p12 => ?_)
  refine po_b (Φ := fun p : Unit × gw_S => rST p.2) (P := fun r U => rST U) (po_st_Model_scaled S12 r12 p12) (fun r15 S15 p15 => ?_)
  refine po_b (Φ := fun p : Unit × gw_S => rST p.2) (P := fun r U => rST U) (po_st_Model_read S15 p15) (fun r21 S21 p21 => ?_)
  refine po_n (Φ := fun p : Unit × gw_S => rST p.2) (fun v27 e27 => ?_)
  refine po_b (Φ := fun p : Unit × gw_S => rST p.2) (P := fun r U => rST U) (po_st_Model_div S21 ((r5 : Int32).toInt64) (2 : Int64) p21 (by decide)) (fun r36 S36 p36 => ?_)
  refine po_n (Φ := fun p : Unit × gw_S => rST p.2) (fun v41 e41 => ?_)
  refine po_b (Φ := fun p : Unit × gw_S => rST p.2) (P := fun r U => rST U) (po_st_Model_div S36 ((r15 : Int32).toInt64) (2 : Int64) p36 (by decide)) (fun r50 S50 p50 => ?_)
  refine po_n (Φ := fun p : Unit × gw_S => rST p.2) (fun v55 e55 => ?_)
  exact pl_st_Model_polygon_60 a3 v27 v41 v55 (gw_inE e27 (gw_and15 _)) (gw_fu ((v27 : Int32).toInt - ((0 : Int32) : Int32).toInt)) S50 (0 : Int32) (gw_fu_pos _) (gw_fu_lt _) (by decide) p50
set_option maxHeartbeats 4000000 in
set_option maxRecDepth 100000 in
theorem pl_nz_Model_polygon_158 {ν : Int32}  (a3 : Int32) (y6 : Int32) (y9 : Int32) (h9i : vp_in y9 15) {K : gw_S → Unit × gw_S} (hK : ∀ S : gw_S, S 0 14 = ν → (K S).2 0 14 = ν) : ∀ (n : Nat) (S : gw_S) (x10 : Int32), 0 < n → ((40 : Int32) : Int32).toInt - x10.toInt < (n : Int) → 0 ≤ x10.toInt → S 0 14 = ν → (fl_Model_polygon_158 K a3 y6 y9 n S x10).2 0 14 = ν := by
  intro n
  induction n with
  | zero => intro S x10 hn hf h0 hf_nz; exact absurd hn (Nat.lt_irrefl 0)
  | succ n ih =>
    intro S x10 hn hf h0 hf_nz
    refine po_if (Φ := fun p : Unit × gw_S => p.2 0 14 = ν) (fun h162 => ?_) (fun h162 => ?_)
    · exact hK S hf_nz
    · refine po_if (Φ := fun p : Unit × gw_S => p.2 0 14 = ν) (fun h174 => ?_) (fun h174 => ?_)
      · exact ih S (x10 + (1 : Int32)) (gw_stp h162 hf).1 (gw_stp h162 hf).2.1 (gw_stp0 h162 h0) hf_nz
      · refine po_if (Φ := fun p : Unit × gw_S => p.2 0 14 = ν) (fun h188 => ?_) (fun h188 => ?_)
        · exact ih S (x10 + (1 : Int32)) (gw_stp h162 hf).1 (gw_stp h162 hf).2.1 (gw_stp0 h162 h0) hf_nz
        · refine po_b (Φ := fun p : Unit × gw_S => p.2 0 14 = ν) (P := fun _ U => U 0 14 = ν) (po_nz_Model_line S y9 x10 a3 hf_nz h9i (gw_inB (N := 40) (by decide) h162 h0) (rb_hh h174 h188)) (fun _ S197 p197 => ?_)
          exact ih S197 (x10 + (1 : Int32)) (gw_stp h162 hf).1 (gw_stp h162 hf).2.1 (gw_stp0 h162 h0) p197
set_option maxHeartbeats 4000000 in
set_option maxRecDepth 100000 in
theorem pl_nz_Model_polygon_146 {ν : Int32}  (a3 : Int32) (y6 : Int32) (hl6 : vp_in y6 16) : ∀ (n : Nat) (S : gw_S) (x9 : Int32), 0 < n → (y6 : Int32).toInt - (x9 + (1 : Int32)).toInt < (n : Int) → (x9 + (1 : Int32)).toInt = x9.toInt + 1 → 0 ≤ x9.toInt → S 0 14 = ν → (fl_Model_polygon_146 a3 y6 n S x9).2 0 14 = ν := by
  intro n
  induction n with
  | zero => intro S x9 hn hf h1 h0 hf_nz; exact absurd hn (Nat.lt_irrefl 0)
  | succ n ih =>
    intro S x9 hn hf h1 h0 hf_nz
    refine po_if (Φ := fun p : Unit × gw_S => p.2 0 14 = ν) (fun h152 => ?_) (fun h152 => ?_)
    · exact hf_nz
    · refine pl_nz_Model_polygon_158 a3 y6 x9 (gw_inP hl6 h152 h1 h0) (fun Sc hc_nz => ?_) (gw_fu (((40 : Int32) : Int32).toInt - ((0 : Int32) : Int32).toInt)) S (0 : Int32) (gw_fu_pos _) (gw_fu_lt _) (by decide) hf_nz
      exact ih Sc (x9 + (1 : Int32)) (gw_stp h152 hf).1 (gw_stp h152 hf).2.1 (gw_lt1 h152) (gw_up1 h1 h0) hc_nz
set_option maxHeartbeats 4000000 in
set_option maxRecDepth 100000 in
theorem pl_nz_Model_polygon_112 {ν : Int32}  (a3 : Int32) (y6 : Int32) (y7 : Int32) (hl6 : vp_in y6 16) : ∀ (n : Nat) (S : gw_S) (x9 : Int32), 0 < n → (y6 : Int32).toInt - x9.toInt < (n : Int) → 0 ≤ x9.toInt → S 0 14 = ν → (fl_Model_polygon_112 a3 y6 y7 n S x9).2 0 14 = ν := by
  intro n
  induction n with
  | zero => intro S x9 hn hf h0 hf_nz; exact absurd hn (Nat.lt_irrefl 0)
  | succ n ih =>
    intro S x9 hn hf h0 hf_nz
    refine po_if (Φ := fun p : Unit × gw_S => p.2 0 14 = ν) (fun h116 => ?_) (fun h116 => ?_)
    · exact pl_nz_Model_polygon_146 a3 y6 hl6 (gw_fu ((y6 : Int32).toInt - (((0 : Int32) : Int32) + (1 : Int32)).toInt)) S (0 : Int32) (gw_fu_pos _) (gw_fu_lt _) (by decide) (by decide) hf_nz
    · refine po_b (Φ := fun p : Unit × gw_S => p.2 0 14 = ν) (P := fun r U => U 0 14 = ν) (po_nz_Model_read S hf_nz) (fun r129 S129 p129 => ?_)
      refine po_b (Φ := fun p : Unit × gw_S => p.2 0 14 = ν) (P := fun r U => U 0 14 = ν) (po_nz_Model_scaled S129 r129 p129) (fun r132 S132 p132 => ?_)
      refine po_n (Φ := fun p : Unit × gw_S => p.2 0 14 = ν) (fun S136 E136 => ?_)
      exact ih S136 (x9 + (1 : Int32)) (gw_stp h116 hf).1 (gw_stp h116 hf).2.1 (gw_stp0 h116 h0) (rOK_keep (P := fun z => z = ν) E136 p132 (by omega))
set_option maxHeartbeats 4000000 in
set_option maxRecDepth 100000 in
theorem pl_nz_Model_polygon_60 {ν : Int32}  (a3 : Int32) (y6 : Int32) (y7 : Int32) (y8 : Int32) (hl6 : vp_in y6 16) : ∀ (n : Nat) (S : gw_S) (x9 : Int32), 0 < n → (y6 : Int32).toInt - x9.toInt < (n : Int) → 0 ≤ x9.toInt → S 0 14 = ν → (fl_Model_polygon_60 a3 y6 y7 y8 n S x9).2 0 14 = ν := by
  intro n
  induction n with
  | zero => intro S x9 hn hf h0 hf_nz; exact absurd hn (Nat.lt_irrefl 0)
  | succ n ih =>
    intro S x9 hn hf h0 hf_nz
    refine po_if (Φ := fun p : Unit × gw_S => p.2 0 14 = ν) (fun h64 => ?_) (fun h64 => ?_)
    · exact pl_nz_Model_polygon_112 a3 y6 y7 hl6 (gw_fu ((y6 : Int32).toInt - ((0 : Int32) : Int32).toInt)) S (0 : Int32) (gw_fu_pos _) (gw_fu_lt _) (by decide) hf_nz
    · refine po_b (Φ := fun p : Unit × gw_S => p.2 0 14 = ν) (P := fun r U => U 0 14 = ν) (po_nz_Model_read S hf_nz) (fun r77 S77 p77 => ?_)
      refine po_b (Φ := fun p : Unit × gw_S => p.2 0 14 = ν) (P := fun r U => U 0 14 = ν) (po_nz_Model_scaled S77 r77 p77) (fun r80 S80 p80 => ?_)
      refine po_n (Φ := fun p : Unit × gw_S => p.2 0 14 = ν) (fun S84 E84 => ?_)
      refine po_b (Φ := fun p : Unit × gw_S => p.2 0 14 = ν) (P := fun r U => U 0 14 = ν) (po_nz_Model_read S84 (rOK_keep (P := fun z => z = ν) E84 p80 (by omega))) (fun r95 S95 p95 => ?_)
      refine po_b (Φ := fun p : Unit × gw_S => p.2 0 14 = ν) (P := fun r U => U 0 14 = ν) (po_nz_Model_scaled S95 r95 p95) (fun r98 S98 p98 => ?_)
      refine po_n (Φ := fun p : Unit × gw_S => p.2 0 14 = ν) (fun S102 E102 => ?_)
      exact ih S102 (x9 + (1 : Int32)) (gw_stp h64 hf).1 (gw_stp h64 hf).2.1 (gw_stp0 h64 h0) (rOK_keep (P := fun z => z = ν) E102 p98 (by omega))
set_option maxHeartbeats 4000000 in
set_option maxRecDepth 100000 in
theorem po_nz_Model_polygon {ν : Int32}   (S : gw_S) (a1 : Int32) (a2 : Int32) (a3 : Int32) (hf_nz : S 0 14 = ν) : (f_Model_polygon S a1 a2 a3).2 0 14 = ν := by
  unfold f_Model_polygon
  refine po_b (Φ := fun p : Unit × gw_S => p.2 0 14 = ν) (P := fun r U => U 0 14 = ν) (po_nz_Model_read S hf_nz) (fun r2 S2 p2 => ?_)
  refine po_b (Φ := fun p : Unit × gw_S => p.2 0 14 = ν) (P := fun r U => U 0 14 = ν) (po_nz_Model_scaled S2 r2 p2) (fun r5 S5 p5 => ?_)
  refine po_b (Φ := fun p : Unit × gw_S => p.2 0 14 = ν) (P := fun r U => U 0 14 = ν) (po_nz_Model_read S5 p5) (fun r12 S12 p12 => ?_)
  refine po_b (Φ := fun p : Unit × gw_S => p.2 0 14 = ν) (P := fun r U => U 0 14 = ν) (po_nz_Model_scaled S12 r12 p12) (fun r15 S15 p15 => ?_)
  refine po_b (Φ := fun p : Unit × gw_S => p.2 0 14 = ν) (P := fun r U => U 0 14 = ν) (po_nz_Model_read S15 p15) (fun r21 S21 p21 => ?_)
  refine po_n (Φ := fun p : Unit × gw_S => p.2 0 14 = ν) (fun v27 e27 => ?_)
  refine po_b (Φ := fun p : Unit × gw_S => p.2 0 14 = ν) (P := fun r U => U 0 14 = ν) (po_nz_Model_div S21 ((r5 : Int32).toInt64) (2 : Int64) p21 (by decide)) (fun r36 S36 p36 => ?_)
  refine po_n (Φ := fun p : Unit × gw_S => p.2 0 14 = ν) (fun v41 e41 => ?_)
  refine po_b (Φ := fun p : Unit × gw_S => p.2 0 14 = ν) (P := fun r U => U 0 14 = ν) (po_nz_Model_div S36 ((r15 : Int32).toInt64) (2 : Int64) p36 (by decide)) (fun r50 S50 p50 => ?_)
  refine po_n (Φ := fun p : Unit × gw_S => p.2 0 14 = ν) (fun v55 e55 => ?_)
  exact pl_nz_Model_polygon_60 a3 v27 v41 v55 (gw_inE e27 (gw_and15 _)) (gw_fu ((v27 : Int32).toInt - ((0 : Int32) : Int32).toInt)) S50 (0 : Int32) (gw_fu_pos _) (gw_fu_lt _) (by decide) p50
end
