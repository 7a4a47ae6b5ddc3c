theorem gw_inP {x b : Int32} (hb : vp_in b 16) (h : ¬ b ≤ x + (1 : Int32)) (h1 : (x + 1).toInt = x.toInt + 1) (h0 : 0 ≤ x.toInt) : vp_in x 15 := by
  rw [vp_in_iff] at hb ⊢
  rw [Int32.le_iff_toInt_le] at h
  omega
theorem gw_in15 {x : Int32} (h : vp_in x 15) : vp_in x 16 := by
  rw [vp_in_iff] at h ⊢
  omega
theorem gw_in15s {x : Int32} (h : vp_in x 15) : vp_in (x + (1 : Int32)) 16 := by
  rw [vp_in_iff] at h ⊢
  have h1 := gw_add1 (i := x) (by omega)
  omega
theorem gw_posI {v : Int32} (h : ¬ v ≤ 0) : 0 < v.toInt := by
  rw [Int32.le_iff_toInt_le, Int32.toInt_zero] at h; omega
theorem cRw {S : gw_S} {v : Int32} {a b : Nat} (e : v = S 13 a - S 13 b) (h : cOK S) : v.toInt ≤ 4194304 := by
  have h1 := (h 13 a).2.2.2.2 (Or.inr (Or.inr rfl))
  have h2 := (h 13 b).2.2.2.2 (Or.inr (Or.inr rfl))
  unfold cYb at h1 h2
  rw [e, gw_subI (by omega) (by omega)]
  omega
theorem gw_nz64 {v : Int32} (h : 0 < v.toInt) : ¬ v.toInt64 = 0 := by
  intro q
  have h1 : v.toInt64.toInt = v.toInt := by simp
  rw [q] at h1
  have h2 : (0 : Int64).toInt = 0 := rfl
  omega
theorem cOK_yy {S : gw_S} {v : Int32} {i : Nat} (h : cOK S) (e : v = S 13 i) : cYb v := by rw [e]; exact (h 13 i).2.2.2.2 (Or.inr (Or.inr rfl))
theorem gw_le4 {a : Int32} (h : ¬ (4 : Int32) < a) : a.toInt ≤ 4 := by
  rw [Int32.lt_iff_toInt_lt, show (4 : Int32).toInt = 4 from rfl] at h; omega
theorem gw_k1 {a : Int32} {K : Nat} (h6 : a.toInt + (K : Int) = 5) (h4 : a.toInt ≤ 4) : (a + (1 : Int32)).toInt + ((K - 1 : Nat) : Int) = 5 := by
  have h1 := gw_add1 (i := a) (by omega)
  omega
theorem gw_t1 {t j b : Int32} (h : ¬ b ≤ j) (ht : 0 ≤ t.toInt + j.toInt) : 0 ≤ t.toInt + (j + 1).toInt := by
  rw [gw_lt1 h]; omega
theorem dr_fill {w t j r f o b : Int32} (hw : vp_in w 4) (hr : r = w * (2560 : Int32) + (t + j) * (64 : Int32)) (h0 : 0 ≤ t.toInt + j.toInt) (hj : ¬ b ≤ j) (hb : b.toInt ≤ 40 - t.toInt) (hf : 0 ≤ f.toInt) (ho : o.toInt ≤ 63) (hfo : ¬ o < f) : (r + f ≤ (r + o) + (1 : Int32)) ∧ ((0 : Int32) ≤ r + f) ∧ ((r + o) + (1 : Int32) ≤ (10240 : Int32)) := by
  rw [Int32.le_iff_toInt_le] at hj
  rw [Int32.lt_iff_toInt_lt] at hfo
  have h1 := gw_addI (a := t) (b := j) (by omega) (by omega)
  have hq : vp_in (t + j) 40 := by rw [vp_in_iff, h1]; omega
  have hff : vp_in f 64 := by rw [vp_in_iff]; omega
  have hoo : vp_in o 64 := by rw [vp_in_iff]; omega
  obtain ⟨a, ha, e1⟩ := vp_in_of hw (by decide)
  obtain ⟨c, hc, e2⟩ := vp_in_of hq (by decide)
  obtain ⟨d, hd, e3⟩ := vp_in_of hff (by decide)
  obtain ⟨e, he, e4⟩ := vp_in_of hoo (by decide)
  have hde : d ≤ e := by
    rw [e3, e4, nI_toInt (by omega), nI_toInt (by omega)] at hfo
    omega
  have er : r = nI (a * 2560 + c * 64) := by
    rw [hr, e1, e2, show (2560 : Int32) = nI 2560 from rfl, show (64 : Int32) = nI 64 from rfl, pk_mul, pk_mul, nI_add]
  rw [er, e3, e4, nI_add, nI_add, nI_1, show (10240 : Int32) = nI 10240 from rfl]
  exact ⟨nI_le (by omega) (by omega), nI_pos' (by omega), nI_le (by omega) (by omega)⟩

section
variable {l : Launch} {D : va_G} {cI cB cC cZ : ClassId} {ad : Nat → Nat}
noncomputable def fl_Painter_placePairs_69   (a4 : Int32) (y5 : Int32) (y6 : Int32) (y7 : Int32) (y8 : Int32) (n : Nat) : gw_S → Int32 → Unit × gw_S := gw_L1 (fun self S x9 => (if y7 ≤ x9 then (((), S)) else (gw_b (f_Bytes_read 7 S (y8 + ((2 : Int32) * x9))) fun r95 S95 => gw_b (f_Painter_scaled S95 r95 a4) fun r100 S100 => gw_n (gw_u S100 11 (x9 : Int32).toNatClampNeg (y5 + r100)) fun S104 => gw_b (f_Bytes_read 7 S104 ((y8 + ((2 : Int32) * x9)) + (1 : Int32))) fun r126 S126 => gw_b (f_Painter_scaled S126 r126 a4) fun r131 S131 => gw_n (gw_u S131 13 (x9 : Int32).toNatClampNeg (y6 + r131)) fun S135 => gw_b (f_Bytes_read 7 S135 ((y8 + ((2 : Int32) * y7)) + x9)) fun r158 S158 => gw_b (f_Painter_scaled S158 r158 a4) fun r163 S163 => gw_n (gw_u S163 12 (x9 : Int32).toNatClampNeg (y5 + r163)) fun S167 => (self S167 (x9 + (1 : Int32)))))) (fun S _ => ((), S)) n
set_option maxHeartbeats 4000000 in
set_option maxRecDepth 100000 in
theorem l_Painter_placePairs_69 {X : gx_M} {A : Nat → Prop}  (F : gw_F X l prog_5_method_5_code 10 none "StageMachine$Painter" gTs (gw_rm 2) D gCl (gTys cI cB cC cZ) 46 ad A) (a4 : Int32) (y5 : Int32) (y6 : Int32) (y7 : Int32) (y8 : Int32) (hl7 : vp_in y7 16) (h5 : cBb y5) (h6 : cBb y6) (hz : cSh a4) : ∀ (n : Nat) (S : gw_S) (x9 : Int32), 0 < n → (y7 : Int32).toInt - x9.toInt < (n : Int) → 0 ≤ x9.toInt → cOK S → gw_V X (gw_P D gCl 46 ad (cE ad cI cB cC)) A 10 gw_rV S 69 [(0, .ref (ad 6)), (4, .int a4), (5, .int y5), (6, .int y6), (7, .int y7), (8, .int y8), (9, .int x9)] [] (fl_Painter_placePairs_69 a4 y5 y6 y7 y8 n S x9) := by
  intro n
  induction n with
  | zero => intro S x9 hn hf h0 hf_ok; exact absurd hn (Nat.lt_irrefl 0)
  | succ n ih =>
    intro S x9 hn hf h0 hf_ok
    refine gw_iload (pc := 69) F 6 d_Painter_placePairs_69 rfl ?_
    refine gw_iload (pc := 71) F 4 d_Painter_placePairs_71 rfl ?_
    refine gw_icmp_geS (pc := 73) (tgt := 174) F d_Painter_placePairs_73 (by decide) (fun h73 => ?_) (fun h73 => ?_)
    · exact gw_vret (pc := 174) F d_Painter_placePairs_174
    · refine gw_aload_n (pc := 76) F 0 d_Painter_placePairs_76 rfl rfl ?_
      refine cg_Painter_rightXs (pc := 77) F tw_73 d_Painter_placePairs_77 ?_
      refine gw_iload (pc := 80) F 6 d_Painter_placePairs_80 rfl ?_
      refine gw_iload (pc := 82) F 2 d_Painter_placePairs_82 rfl ?_
      refine gw_aload_n (pc := 84) F 0 d_Painter_placePairs_84 rfl rfl ?_
      refine cg_Painter_shapes (pc := 85) F tw_68 d_Painter_placePairs_85 ?_
      refine gw_iload (pc := 88) F 5 d_Painter_placePairs_88 rfl ?_
      refine gw_iconst (pc := 90) (v := (2 : Int32)) F d_Painter_placePairs_90 (by decide) ?_
      refine gw_iload (pc := 91) F 6 d_Painter_placePairs_91 rfl ?_
      refine gw_imul (pc := 93) F d_Painter_placePairs_93 ?_
      refine gw_iadd (pc := 94) F d_Painter_placePairs_94 ?_
      refine gw_cV (pc := 95) (As := [.int (y8 + ((2 : Int32) * x9))]) (rest := [.int y5, .int x9, .ref (ad 11)]) F (c_Bytes_read (gw_FJ F) (Or.inr rfl) S (y8 + ((2 : Int32) * x9))) cw_Bytes_read cv_Bytes_read tw_340 rfl (by decide) (by decide) (chi_Bytes (Or.inr rfl)) (cE_Bytes (Or.inr rfl)) rfl rfl rfl rfl (Nat.le_of_ble_eq_true rfl) d_Painter_placePairs_95 (gw_bI (P := fun r U => cOK U ∧ vp_in r 256) ⟨(po_ok_Bytes_read (Or.inr rfl) S (y8 + ((2 : Int32) * x9)) hf_ok), (cb_read (Or.inr rfl) S (y8 + ((2 : Int32) * x9)) hf_ok)⟩ (fun r95 S95 p95 => ?_))
      refine gw_iload (pc := 98) F 1 d_Painter_placePairs_98 rfl ?_
      refine gw_cS (pc := 100) (As := [.int r95, .int a4]) (rest := [.int y5, .int x9, .ref (ad 11)]) F (c_Painter_scaled (gw_FJ F) S95 r95 a4) cw_Painter_scaled cv_Painter_scaled tw_345 rfl (by decide) (by decide) rfl rfl (Nat.le_of_ble_eq_true rfl) d_Painter_placePairs_100 (gw_bI (P := fun r U => cOK U ∧ cSb r) ⟨(po_ok_Painter_scaled S95 r95 a4 p95.1), (cb_scaled S95 r95 a4 p95.2 hz)⟩ (fun r100 S100 p100 => ?_))
      refine gw_iadd (pc := 103) F d_Painter_placePairs_103 ?_
      refine cs_RXs (pc := 104) F (gw_inL hl7 h73 h0) d_Painter_placePairs_104 ?_
      refine gw_nS (fun S104 E104 => ?_)
      refine gw_aload_n (pc := 105) F 0 d_Painter_placePairs_105 rfl rfl ?_
      refine cg_Painter_pairYs (pc := 106) F tw_75 d_Painter_placePairs_106 ?_
      refine gw_iload (pc := 109) F 6 d_Painter_placePairs_109 rfl ?_
      refine gw_iload (pc := 111) F 3 d_Painter_placePairs_111 rfl ?_
      refine gw_aload_n (pc := 113) F 0 d_Painter_placePairs_113 rfl rfl ?_
      refine cg_Painter_shapes (pc := 114) F tw_68 d_Painter_placePairs_114 ?_
      refine gw_iload (pc := 117) F 5 d_Painter_placePairs_117 rfl ?_
      refine gw_iconst (pc := 119) (v := (2 : Int32)) F d_Painter_placePairs_119 (by decide) ?_
      refine gw_iload (pc := 120) F 6 d_Painter_placePairs_120 rfl ?_
      refine gw_imul (pc := 122) F d_Painter_placePairs_122 ?_
      refine gw_iadd (pc := 123) F d_Painter_placePairs_123 ?_
      refine gw_iconst (pc := 124) (v := (1 : Int32)) F d_Painter_placePairs_124 (by decide) ?_
      refine gw_iadd (pc := 125) F d_Painter_placePairs_125 ?_
      refine gw_cV (pc := 126) (As := [.int ((y8 + ((2 : Int32) * x9)) + (1 : Int32))]) (rest := [.int y6, .int x9, .ref (ad 13)]) F (c_Bytes_read (gw_FJ F) (Or.inr rfl) S104 ((y8 + ((2 : Int32) * x9)) + (1 : Int32))) cw_Bytes_read cv_Bytes_read tw_340 rfl (by decide) (by decide) (chi_Bytes (Or.inr rfl)) (cE_Bytes (Or.inr rfl)) rfl rfl rfl rfl (Nat.le_of_ble_eq_true rfl) d_Painter_placePairs_126 (gw_bI (P := fun r U => cOK U ∧ vp_in r 256) ⟨(po_ok_Bytes_read (Or.inr rfl) S104 ((y8 + ((2 : Int32) * x9)) + (1 : Int32)) (cOK_y E104 p100.1 (by omega) (cBb_y h5 p100.2))), (cb_read (Or.inr rfl) S104 ((y8 + ((2 : Int32) * x9)) + (1 : Int32)) (cOK_y E104 p100.1 (by omega) (cBb_y h5 p100.2)))⟩ (fun r126 S126 p126 => ?_))
      refine gw_iload (pc := 129) F 1 d_Painter_placePairs_129 rfl ?_
      refine gw_cS (pc := 131) (As := [.int r126, .int a4]) (rest := [.int y6, .int x9, .ref (ad 13)]) F (c_Painter_scaled (gw_FJ F) S126 r126 a4) cw_Painter_scaled cv_Painter_scaled tw_345 rfl (by decide) (by decide) rfl rfl (Nat.le_of_ble_eq_true rfl) d_Painter_placePairs_131 (gw_bI (P := fun r U => cOK U ∧ cSb r) ⟨(po_ok_Painter_scaled S126 r126 a4 p126.1), (cb_scaled S126 r126 a4 p126.2 hz)⟩ (fun r131 S131 p131 => ?_))
      refine gw_iadd (pc := 134) F d_Painter_placePairs_134 ?_
      refine cs_PYs (pc := 135) F (gw_inL hl7 h73 h0) d_Painter_placePairs_135 ?_
      refine gw_nS (fun S135 E135 => ?_)
      refine gw_aload_n (pc := 136) F 0 d_Painter_placePairs_136 rfl rfl ?_
      refine cg_Painter_leftXs (pc := 137) F tw_74 d_Painter_placePairs_137 ?_
      refine gw_iload (pc := 140) F 6 d_Painter_placePairs_140 rfl ?_
      refine gw_iload (pc := 142) F 2 d_Painter_placePairs_142 rfl ?_
      refine gw_aload_n (pc := 144) F 0 d_Painter_placePairs_144 rfl rfl ?_
      refine cg_Painter_shapes (pc := 145) F tw_68 d_Painter_placePairs_145 ?_
      refine gw_iload (pc := 148) F 5 d_Painter_placePairs_148 rfl ?_
      refine gw_iconst (pc := 150) (v := (2 : Int32)) F d_Painter_placePairs_150 (by decide) ?_
      refine gw_iload (pc := 151) F 4 d_Painter_placePairs_151 rfl ?_
      refine gw_imul (pc := 153) F d_Painter_placePairs_153 ?_
      refine gw_iadd (pc := 154) F d_Painter_placePairs_154 ?_
      refine gw_iload (pc := 155) F 6 d_Painter_placePairs_155 rfl ?_
      refine gw_iadd (pc := 157) F d_Painter_placePairs_157 ?_
      refine gw_cV (pc := 158) (As := [.int ((y8 + ((2 : Int32) * y7)) + x9)]) (rest := [.int y5, .int x9, .ref (ad 12)]) F (c_Bytes_read (gw_FJ F) (Or.inr rfl) S135 ((y8 + ((2 : Int32) * y7)) + x9)) cw_Bytes_read cv_Bytes_read tw_340 rfl (by decide) (by decide) (chi_Bytes (Or.inr rfl)) (cE_Bytes (Or.inr rfl)) rfl rfl rfl rfl (Nat.le_of_ble_eq_true rfl) d_Painter_placePairs_158 (gw_bI (P := fun r U => cOK U ∧ vp_in r 256) ⟨(po_ok_Bytes_read (Or.inr rfl) S135 ((y8 + ((2 : Int32) * y7)) + x9) (cOK_y E135 p131.1 (by omega) (cBb_y h6 p131.2))), (cb_read (Or.inr rfl) S135 ((y8 + ((2 : Int32) * y7)) + x9) (cOK_y E135 p131.1 (by omega) (cBb_y h6 p131.2)))⟩ (fun r158 S158 p158 => ?_))
      refine gw_iload (pc := 161) F 1 d_Painter_placePairs_161 rfl ?_
      refine gw_cS (pc := 163) (As := [.int r158, .int a4]) (rest := [.int y5, .int x9, .ref (ad 12)]) F (c_Painter_scaled (gw_FJ F) S158 r158 a4) cw_Painter_scaled cv_Painter_scaled tw_345 rfl (by decide) (by decide) rfl rfl (Nat.le_of_ble_eq_true rfl) d_Painter_placePairs_163 (gw_bI (P := fun r U => cOK U ∧ cSb r) ⟨(po_ok_Painter_scaled S158 r158 a4 p158.1), (cb_scaled S158 r158 a4 p158.2 hz)⟩ (fun r163 S163 p163 => ?_))
      refine gw_iadd (pc := 166) F d_Painter_placePairs_166 ?_
      refine cs_LXs (pc := 167) F (gw_inL hl7 h73 h0) d_Painter_placePairs_167 ?_
      refine gw_nS (fun S167 E167 => ?_)
      refine gw_iinc (pc := 168) (v := (x9 + (1 : Int32))) (lv' := [(9, .int (x9 + (1 : Int32))), (0, .ref (ad 6)), (4, .int a4), (5, .int y5), (6, .int y6), (7, .int y7), (8, .int y8)]) F 6 d_Painter_placePairs_168 rfl (congrArg (HAdd.hAdd x9) (by decide)) (by decide) rfl ?_
      refine gw_goto (pc := 171) (tgt := 69) F d_Painter_placePairs_171 (by decide) ?_
      refine gw_lvs (lv' := [(0, .ref (ad 6)), (4, .int a4), (5, .int y5), (6, .int y6), (7, .int y7), (8, .int y8), (9, .int (x9 + (1 : Int32)))]) [1, 2, 3, 4, 5, 6, 0] rfl ?_
      exact ih S167 (x9 + (1 : Int32)) (gw_stp h73 hf).1 (gw_stp h73 hf).2.1 (gw_stp0 h73 h0) (cOK_y E167 p163.1 (by omega) (cBb_y h5 p163.2))
noncomputable def f_Painter_placePairs   (S : gw_S) (a1 : Int32) (a2 : Int32) (a3 : Int32) (a4 : Int32) : Unit × gw_S := (gw_b (f_Bytes_read 7 S (a1 + (1 : Int32))) fun r8 S8 => gw_b (f_Painter_scaled S8 r8 a4) fun r13 S13 => gw_b (f_Math_fdI S13 r13 (2 : Int32)) fun r17 S17 => gw_n (a2 - r17) fun v21 => gw_b (f_Bytes_read 7 S17 (a1 + (2 : Int32))) fun r31 S31 => gw_b (f_Painter_scaled S31 r31 a4) fun r36 S36 => gw_b (f_Math_fdI S36 r36 (2 : Int32)) fun r40 S40 => gw_n (a3 - r40) fun v44 => gw_b (f_Bytes_read 7 S40 (a1 + (3 : Int32))) fun r53 S53 => gw_n (r53 &&& (15 : Int32)) fun v59 => gw_n (a1 + (4 : Int32)) fun v64 => (fl_Painter_placePairs_69 a4 v21 v44 v59 v64 (gw_fu ((v59 : Int32).toInt - ((0 : Int32) : Int32).toInt)) S53 (0 : Int32)))
set_option maxHeartbeats 4000000 in
set_option maxRecDepth 100000 in
theorem c_Painter_placePairs (hJ : gw_J 46 ad)   (S : gw_S) (a1 : Int32) (a2 : Int32) (a3 : Int32) (a4 : Int32) (hf_ok : cOK S) (hx : cZb a2) (hy : cZb a3) (hz : cSh a4) : gw_M l y_Painter_placePairs prog_5_method_5_code 10 none gTs (gw_rm 2) D gCl (gTys cI cB cC cZ) 46 ad (cE ad cI cB cC) gw_rV [.ref (ad 6), .int a1, .int a2, .int a3, .int a4] S (f_Painter_placePairs S a1 a2 a3 a4) := by
  refine gw_start gTs_ok (plainFor_of_name (by decide)) hJ (Nat.le_of_ble_eq_true rfl) (fun X A F => ?_)
  refine gw_lve (lv' := [(0, .ref (ad 6)), (1, .int a1), (2, .int a2), (3, .int a3), (4, .int a4)]) rfl ?_
  unfold f_Painter_placePairs
  refine gw_iload_n (pc := 0) F 2 d_Painter_placePairs_0 rfl rfl ?_
  refine gw_aload_n (pc := 1) F 0 d_Painter_placePairs_1 rfl rfl ?_
  refine cg_Painter_shapes (pc := 2) F tw_68 d_Painter_placePairs_2 ?_
  refine gw_iload_n (pc := 5) F 1 d_Painter_placePairs_5 rfl rfl ?_
  refine gw_iconst (pc := 6) (v := (1 : Int32)) F d_Painter_placePairs_6 (by decide) ?_
  refine gw_iadd (pc := 7) F d_Painter_placePairs_7 ?_
  refine gw_cV (pc := 8) (As := [.int (a1 + (1 : Int32))]) (rest := [.int a2]) F (c_Bytes_read (gw_FJ F) (Or.inr rfl) S (a1 + (1 : Int32))) cw_Bytes_read cv_Bytes_read tw_340 rfl (by decide) (by decide) (chi_Bytes (Or.inr rfl)) (cE_Bytes (Or.inr rfl)) rfl rfl rfl rfl (Nat.le_of_ble_eq_true rfl) d_Painter_placePairs_8 (gw_bI (P := fun r U => cOK U ∧ vp_in r 256) ⟨(po_ok_Bytes_read (Or.inr rfl) S (a1 + (1 : Int32)) hf_ok), (cb_read (Or.inr rfl) S (a1 + (1 : Int32)) hf_ok)⟩ (fun r8 S8 p8 => ?_))
  refine gw_iload (pc := 11) F 4 d_Painter_placePairs_11 rfl ?_
  refine gw_cS (pc := 13) (As := [.int r8, .int a4]) (rest := [.int a2]) F (c_Painter_scaled (gw_FJ F) S8 r8 a4) cw_Painter_scaled cv_Painter_scaled tw_345 rfl (by decide) (by decide) rfl rfl (Nat.le_of_ble_eq_true rfl) d_Painter_placePairs_13 (gw_bI (P := fun r U => cOK U ∧ cSb r) ⟨(po_ok_Painter_scaled S8 r8 a4 p8.1), (cb_scaled S8 r8 a4 p8.2 hz)⟩ (fun r13 S13 p13 => ?_))
  refine gw_iconst (pc := 16) (v := (2 : Int32)) F d_Painter_placePairs_16 (by decide) ?_
  refine gw_cS (pc := 17) (As := [.int r13, .int (2 : Int32)]) (rest := [.int a2]) F (c_Math_fdI (gw_FJ F) S13 r13 (2 : Int32) (by decide)) cw_Math_fdI cv_Math_fdI tw_348 rfl (by decide) (by decide) rfl rfl (Nat.le_of_ble_eq_true rfl) d_Painter_placePairs_17 (gw_bI (P := fun r U => cOK U ∧ cSb r) ⟨(po_ok_Math_fdI S13 r13 (2 : Int32) p13.1 (by decide)), (cb_half S13 r13 p13.2)⟩ (fun r17 S17 p17 => ?_))
  refine gw_isub (pc := 20) F d_Painter_placePairs_20 ?_
  refine gw_nI (fun v21 e21 => ?_)
  refine gw_istore (pc := 21) (lv' := [(5, .int v21), (0, .ref (ad 6)), (1, .int a1), (2, .int a2), (3, .int a3), (4, .int a4)]) F d_Painter_placePairs_21 (by decide) rfl ?_
  refine gw_iload_n (pc := 23) F 4 d_Painter_placePairs_23 rfl rfl ?_
  refine gw_aload_n (pc := 24) F 1 d_Painter_placePairs_24 rfl rfl ?_
  refine cg_Painter_shapes (pc := 25) F tw_68 d_Painter_placePairs_25 ?_
  refine gw_iload_n (pc := 28) F 2 d_Painter_placePairs_28 rfl rfl ?_
  refine gw_iconst (pc := 29) (v := (2 : Int32)) F d_Painter_placePairs_29 (by decide) ?_
  refine gw_iadd (pc := 30) F d_Painter_placePairs_30 ?_
  refine gw_cV (pc := 31) (As := [.int (a1 + (2 : Int32))]) (rest := [.int a3]) F (c_Bytes_read (gw_FJ F) (Or.inr rfl) S17 (a1 + (2 : Int32))) cw_Bytes_read cv_Bytes_read tw_340 rfl (by decide) (by decide) (chi_Bytes (Or.inr rfl)) (cE_Bytes (Or.inr rfl)) rfl rfl rfl rfl (Nat.le_of_ble_eq_true rfl) d_Painter_placePairs_31 (gw_bI (P := fun r U => cOK U ∧ vp_in r 256) ⟨(po_ok_Bytes_read (Or.inr rfl) S17 (a1 + (2 : Int32)) p17.1), (cb_read (Or.inr rfl) S17 (a1 + (2 : Int32)) p17.1)⟩ (fun r31 S31 p31 => ?_))
  refine gw_iload (pc := 34) F 5 d_Painter_placePairs_34 rfl ?_
  refine gw_cS (pc := 36) (As := [.int r31, .int a4]) (rest := [.int a3]) F (c_Painter_scaled (gw_FJ F) S31 r31 a4) cw_Painter_scaled cv_Painter_scaled tw_345 rfl (by decide) (by decide) rfl rfl (Nat.le_of_ble_eq_true rfl) d_Painter_placePairs_36 (gw_bI (P := fun r U => cOK U ∧ cSb r) ⟨(po_ok_Painter_scaled S31 r31 a4 p31.1), (cb_scaled S31 r31 a4 p31.2 hz)⟩ (fun r36 S36 p36 => ?_))
  refine gw_iconst (pc := 39) (v := (2 : Int32)) F d_Painter_placePairs_39 (by decide) ?_
  refine gw_cS (pc := 40) (As := [.int r36, .int (2 : Int32)]) (rest := [.int a3]) F (c_Math_fdI (gw_FJ F) S36 r36 (2 : Int32) (by decide)) cw_Math_fdI cv_Math_fdI tw_348 rfl (by decide) (by decide) rfl rfl (Nat.le_of_ble_eq_true rfl) d_Painter_placePairs_40 (gw_bI (P := fun r U => cOK U ∧ cSb r) ⟨(po_ok_Math_fdI S36 r36 (2 : Int32) p36.1 (by decide)), (cb_half S36 r36 p36.2)⟩ (fun r40 S40 p40 => ?_))
  refine gw_isub (pc := 43) F d_Painter_placePairs_43 ?_
  refine gw_nI (fun v44 e44 => ?_)
  refine gw_istore (pc := 44) (lv' := [(6, .int v44), (5, .int v21), (0, .ref (ad 6)), (1, .int a1), (2, .int a2), (3, .int a3), (4, .int a4)]) F d_Painter_placePairs_44 (by decide) rfl ?_
  refine gw_aload_n (pc := 46) F 2 d_Painter_placePairs_46 rfl rfl ?_
  refine cg_Painter_shapes (pc := 47) F tw_68 d_Painter_placePairs_47 ?_
  refine gw_iload_n (pc := 50) F 3 d_Painter_placePairs_50 rfl rfl ?_
  refine gw_iconst (pc := 51) (v := (3 : Int32)) F d_Painter_placePairs_51 (by decide) ?_
  refine gw_iadd (pc := 52) F d_Painter_placePairs_52 ?_
  refine gw_cV (pc := 53) (As := [.int (a1 + (3 : Int32))]) (rest := []) F (c_Bytes_read (gw_FJ F) (Or.inr rfl) S40 (a1 + (3 : Int32))) cw_Bytes_read cv_Bytes_read tw_340 rfl (by decide) (by decide) (chi_Bytes (Or.inr rfl)) (cE_Bytes (Or.inr rfl)) rfl rfl rfl rfl (Nat.le_of_ble_eq_true rfl) d_Painter_placePairs_53 (gw_bI (P := fun r U => cOK U ∧ vp_in r 256) ⟨(po_ok_Bytes_read (Or.inr rfl) S40 (a1 + (3 : Int32)) p40.1), (cb_read (Or.inr rfl) S40 (a1 + (3 : Int32)) p40.1)⟩ (fun r53 S53 p53 => ?_))
  refine gw_bipush (pc := 56) (v := (15 : Int32)) F d_Painter_placePairs_56 (by decide) ?_
  refine gw_iand (pc := 58) F d_Painter_placePairs_58 ?_
  refine gw_nI (fun v59 e59 => ?_)
  refine gw_istore (pc := 59) (lv' := [(7, .int v59), (6, .int v44), (5, .int v21), (0, .ref (ad 6)), (1, .int a1), (2, .int a2), (3, .int a3), (4, .int a4)]) F d_Painter_placePairs_59 (by decide) rfl ?_
  refine gw_iload_n (pc := 61) F 4 d_Painter_placePairs_61 rfl rfl ?_
  refine gw_iconst (pc := 62) (v := (4 : Int32)) F d_Painter_placePairs_62 (by decide) ?_
  refine gw_iadd (pc := 63) F d_Painter_placePairs_63 ?_
  refine gw_nI (fun v64 e64 => ?_)
  refine gw_istore (pc := 64) (lv' := [(8, .int v64), (7, .int v59), (6, .int v44), (5, .int v21), (0, .ref (ad 6)), (1, .int a1), (2, .int a2), (3, .int a3), (4, .int a4)]) F d_Painter_placePairs_64 (by decide) rfl ?_
  refine gw_iconst (pc := 66) (v := (0 : Int32)) F d_Painter_placePairs_66 (by decide) ?_
  refine gw_istore (pc := 67) (lv' := [(9, .int (0 : Int32)), (8, .int v64), (7, .int v59), (6, .int v44), (5, .int v21), (0, .ref (ad 6)), (1, .int a1), (2, .int a2), (3, .int a3), (4, .int a4)]) F d_Painter_placePairs_67 (by decide) rfl ?_
  refine gw_lvs (lv' := [(0, .ref (ad 6)), (4, .int a4), (5, .int v21), (6, .int v44), (7, .int v59), (8, .int v64), (9, .int (0 : Int32))]) [5, 9, 4, 3, 2, 1, 0] rfl ?_
  exact l_Painter_placePairs_69  F a4 v21 v44 v59 v64 (gw_inE e59 (gw_and15 _)) (cZb_b e21 hx p17.2) (cZb_b e44 hy p40.2) hz (gw_fu ((v59 : Int32).toInt - ((0 : Int32) : Int32).toInt)) S53 (0 : Int32) (gw_fu_pos _) (gw_fu_lt _) (by decide) p53.1
set_option maxHeartbeats 4000000 in
set_option maxRecDepth 100000 in
theorem pl_ok_Painter_placePairs_69  (a4 : Int32) (y5 : Int32) (y6 : Int32) (y7 : Int32) (y8 : Int32) (hl7 : vp_in y7 16) (h5 : cBb y5) (h6 : cBb y6) (hz : cSh a4) : ∀ (n : Nat) (S : gw_S) (x9 : Int32), 0 < n → (y7 : Int32).toInt - x9.toInt < (n : Int) → 0 ≤ x9.toInt → cOK S → cOK (fl_Painter_placePairs_69 a4 y5 y6 y7 y8 n S x9).2 := by
  intro n
  induction n with
  | zero => intro S x9 hn hf h0 hf_ok; exact absurd hn (Nat.lt_irrefl 0)
  | succ n ih =>
    intro S x9 hn hf h0 hf_ok
    refine po_if (Φ := fun p : Unit × gw_S => cOK p.2) (fun h73 => ?_) (fun h73 => ?_)
    · exact hf_ok
    · refine po_b (Φ := fun p : Unit × gw_S => cOK p.2) (P := fun r U => cOK U ∧ vp_in r 256) ⟨(po_ok_Bytes_read (Or.inr rfl) S (y8 + ((2 : Int32) * x9)) hf_ok), (cb_read (Or.inr rfl) S (y8 + ((2 : Int32) * x9)) hf_ok)⟩ (fun r95 S95 p95 => ?_)
      refine po_b (Φ := fun p : Unit × gw_S => cOK p.2) (P := fun r U => cOK U ∧ cSb r) ⟨(po_ok_Painter_scaled S95 r95 a4 p95.1), (cb_scaled S95 r95 a4 p95.2 hz)⟩ (fun r100 S100 p100 => ?_)
      refine po_n (Φ := fun p : Unit × gw_S => cOK p.2) (fun S104 E104 => ?_)
      refine po_b (Φ := fun p : Unit × gw_S => cOK p.2) (P := fun r U => cOK U ∧ vp_in r 256) ⟨(po_ok_Bytes_read (Or.inr rfl) S104 ((y8 + ((2 : Int32) * x9)) + (1 : Int32)) (cOK_y E104 p100.1 (by omega) (cBb_y h5 p100.2))), (cb_read (Or.inr rfl) S104 ((y8 + ((2 : Int32) * x9)) + (1 : Int32)) (cOK_y E104 p100.1 (by omega) (cBb_y h5 p100.2)))⟩ (fun r126 S126 p126 => ?_)
      refine po_b (Φ := fun p : Unit × gw_S => cOK p.2) (P := fun r U => cOK U ∧ cSb r) ⟨(po_ok_Painter_scaled S126 r126 a4 p126.1), (cb_scaled S126 r126 a4 p126.2 hz)⟩ (fun r131 S131 p131 => ?_)
      refine po_n (Φ := fun p : Unit × gw_S => cOK p.2) (fun S135 E135 => ?_)
      refine po_b (Φ := fun p : Unit × gw_S => cOK p.2) (P := fun r U => cOK U ∧ vp_in r 256) ⟨(po_ok_Bytes_read (Or.inr rfl) S135 ((y8 + ((2 : Int32) * y7)) + x9) (cOK_y E135 p131.1 (by omega) (cBb_y h6 p131.2))), (cb_read (Or.inr rfl) S135 ((y8 + ((2 : Int32) * y7)) + x9) (cOK_y E135 p131.1 (by omega) (cBb_y h6 p131.2)))⟩ (fun r158 S158 p158 => ?_)
      refine po_b (Φ := fun p : Unit × gw_S => cOK p.2) (P := fun r U => cOK U ∧ cSb r) ⟨(po_ok_Painter_scaled S158 r158 a4 p158.1), (cb_scaled S158 r158 a4 p158.2 hz)⟩ (fun r163 S163 p163 => ?_)
      refine po_n (Φ := fun p : Unit × gw_S => cOK p.2) (fun S167 E167 => ?_)
      exact ih S167 (x9 + (1 : Int32)) (gw_stp h73 hf).1 (gw_stp h73 hf).2.1 (gw_stp0 h73 h0) (cOK_y E167 p163.1 (by omega) (cBb_y h5 p163.2))
set_option maxHeartbeats 4000000 in
set_option maxRecDepth 100000 in
theorem po_ok_Painter_placePairs   (S : gw_S) (a1 : Int32) (a2 : Int32) (a3 : Int32) (a4 : Int32) (hf_ok : cOK S) (hx : cZb a2) (hy : cZb a3) (hz : cSh a4) : cOK (f_Painter_placePairs S a1 a2 a3 a4).2 := by
  unfold f_Painter_placePairs
  refine po_b (Φ := fun p : Unit × gw_S => cOK p.2) (P := fun r U => cOK U ∧ vp_in r 256) ⟨(po_ok_Bytes_read (Or.inr rfl) S (a1 + (1 : Int32)) hf_ok), (cb_read (Or.inr rfl) S (a1 + (1 : Int32)) hf_ok)⟩ (fun r8 S8 p8 => ?_)
  refine po_b (Φ := fun p : Unit × gw_S => cOK p.2) (P := fun r U => cOK U ∧ cSb r) ⟨(po_ok_Painter_scaled S8 r8 a4 p8.1), (cb_scaled S8 r8 a4 p8.2 hz)⟩ (fun r13 S13 p13 => ?_)
  refine po_b (Φ := fun p : Unit × gw_S => cOK p.2) (P := fun r U => cOK U ∧ cSb r) ⟨(po_ok_Math_fdI S13 r13 (2 : Int32) p13.1 (by decide)), (cb_half S13 r13 p13.2)⟩ (fun r17 S17 p17 => ?_)
  refine po_n (Φ := fun p : Unit × gw_S => cOK p.2) (fun v21 e21 => ?_)
  refine po_b (Φ := fun p : Unit × gw_S => cOK p.2) (P := fun r U => cOK U ∧ vp_in r 256) ⟨(po_ok_Bytes_read (Or.inr rfl) S17 (a1 + (2 : Int32)) p17.1), (cb_read (Or.inr rfl) S17 (a1 + (2 : Int32)) p17.1)⟩ (fun r31 S31 p31 => ?_)
  refine po_b (Φ := fun p : Unit × gw_S => cOK p.2) (P := fun r U => cOK U ∧ cSb r) ⟨(po_ok_Painter_scaled S31 r31 a4 p31.1), (cb_scaled S31 r31 a4 p31.2 hz)⟩ (fun r36 S36 p36 => ?_)
  refine po_b (Φ := fun p : Unit × gw_S => cOK p.2) (P := fun r U => cOK U ∧ cSb r) ⟨(po_ok_Math_fdI S36 r36 (2 : Int32) p36.1 (by decide)), (cb_half S36 r36 p36.2)⟩ (fun r40 S40 p40 => ?_)
  refine po_n (Φ := fun p : Unit × gw_S => cOK p.2) (fun v44 e44 => ?_)
  refine po_b (Φ := fun p : Unit × gw_S => cOK p.2) (P := fun r U => cOK U ∧ vp_in r 256) ⟨(po_ok_Bytes_read (Or.inr rfl) S40 (a1 + (3 : Int32)) p40.1), (cb_read (Or.inr rfl) S40 (a1 + (3 : Int32)) p40.1)⟩ (fun r53 S53 p53 => ?_)
  refine po_n (Φ := fun p : Unit × gw_S => cOK p.2) (fun v59 e59 => ?_)
  refine po_n (Φ := fun p : Unit × gw_S => cOK p.2) (fun v64 e64 => ?_)
  exact pl_ok_Painter_placePairs_69 a4 v21 v44 v59 v64 (gw_inE e59 (gw_and15 _)) (cZb_b e21 hx p17.2) (cZb_b e44 hy p40.2) hz (gw_fu ((v59 : Int32).toInt - ((0 : Int32) : Int32).toInt)) S53 (0 : Int32) (gw_fu_pos _) (gw_fu_lt _) (by decide) p53.1
noncomputable def fl_Painter_drawRows_86   (a1 : Int32) (a3 : Int32) (y4 : Int32) (y5 : Int64) (y7 : Int64) (y10 : Int32) (n : Nat) : gw_S → Int32 → Unit × gw_S := gw_L1 (fun self S x11 => (if y10 ≤ x11 then (((), S)) else (gw_b (f_Painter_edgeAt S (S 12 (a1 : Int32).toNatClampNeg) y5 x11) fun r103 S103 => gw_b (f_Math_max S103 r103 (0 : Int32)) fun r107 S107 => gw_b (f_Painter_edgeAt S107 (S107 11 (a1 : Int32).toNatClampNeg) y7 x11) fun r122 S122 => gw_b (f_Math_min S122 r122 (63 : Int32)) fun r127 S127 => if r127 < r107 then (self S127 (x11 + (1 : Int32))) else (gw_b (f_Pages_startOfRow S127 (y4 + x11)) fun r148 S148 => gw_b (f_Arrays_fill S148 (r148 + r107) ((r148 + r127) + (1 : Int32)) ((a3 : Int32).toInt8.toInt32)) fun _ S174 => gw_n (gw_u S174 6 7 ((S174 6 7) + (1 : Int32))) fun S184 => (self S184 (x11 + (1 : Int32))))))) (fun S _ => ((), S)) n
set_option maxHeartbeats 4000000 in
set_option maxRecDepth 100000 in
theorem l_Painter_drawRows_86 {X : gx_M} {A : Nat → Prop}  (F : gw_F X l prog_5_method_7_code 15 none "StageMachine$Painter" gTs (gw_rm 3) D gCl (gTys cI cB cC cZ) 46 ad A) (a1 : Int32) (a3 : Int32) (y4 : Int32) (y5 : Int64) (y7 : Int64) (y10 : Int32) (hb1 : vp_in a1 15) (he : y10.toInt ≤ 40 - y4.toInt) : ∀ (n : Nat) (S : gw_S) (x11 : Int32), 0 < n → (y10 : Int32).toInt - x11.toInt < (n : Int) → cOK S → 0 ≤ y4.toInt + x11.toInt → gw_V X (gw_P D gCl 46 ad (cE ad cI cB cC)) A 15 gw_rV S 86 [(0, .ref (ad 6)), (1, .int a1), (3, .int a3), (4, .int y4), (5, .long y5), (7, .long y7), (10, .int y10), (11, .int x11)] [] (fl_Painter_drawRows_86 a1 a3 y4 y5 y7 y10 n S x11) := by
  intro n
  induction n with
  | zero => intro S x11 hn hf hf_ok ht; exact absurd hn (Nat.lt_irrefl 0)
  | succ n ih =>
    intro S x11 hn hf hf_ok ht
    refine gw_iload (pc := 86) F 7 d_Painter_drawRows_86 rfl ?_
    refine gw_iload (pc := 88) F 6 d_Painter_drawRows_88 rfl ?_
    refine gw_icmp_geS (pc := 90) (tgt := 193) F d_Painter_drawRows_90 (by decide) (fun h90 => ?_) (fun h90 => ?_)
    · exact gw_vret (pc := 193) F d_Painter_drawRows_193
    · refine gw_aload_n (pc := 93) F 0 d_Painter_drawRows_93 rfl rfl ?_
      refine cg_Painter_leftXs (pc := 94) F tw_74 d_Painter_drawRows_94 ?_
      refine gw_iload_n (pc := 97) F 1 d_Painter_drawRows_97 rfl rfl ?_
      refine cl_LXs (pc := 98) F (gw_in15 hb1) d_Painter_drawRows_98 ?_
      refine gw_lload (pc := 99) F 4 d_Painter_drawRows_99 rfl ?_
      refine gw_iload (pc := 101) F 7 d_Painter_drawRows_101 rfl ?_
      refine gw_cS (pc := 103) (As := [.int (S 12 (a1 : Int32).toNatClampNeg), .long y5, .int x11]) (rest := []) F (c_Painter_edgeAt (gw_FJ F) S (S 12 (a1 : Int32).toNatClampNeg) y5 x11) cw_Painter_edgeAt cv_Painter_edgeAt tw_369 rfl (by decide) (by decide) rfl rfl (Nat.le_of_ble_eq_true rfl) d_Painter_drawRows_103 (gw_bI (P := fun r U => cOK U) (po_ok_Painter_edgeAt S (S 12 (a1 : Int32).toNatClampNeg) y5 x11 hf_ok) (fun r103 S103 p103 => ?_))
      refine gw_iconst (pc := 106) (v := (0 : Int32)) F d_Painter_drawRows_106 (by decide) ?_
      refine gw_cS (pc := 107) (As := [.int r103, .int (0 : Int32)]) (rest := []) F (c_Math_max (gw_FJ F) S103 r103 (0 : Int32)) cw_Math_max cv_Math_max tw_363 rfl (by decide) (by decide) rfl rfl (Nat.le_of_ble_eq_true rfl) d_Painter_drawRows_107 (gw_bI (P := fun r U => cOK U ∧ 0 ≤ r.toInt) ⟨(po_ok_Math_max S103 r103 (0 : Int32) p103), (cb_max0 S103 r103)⟩ (fun r107 S107 p107 => ?_))
      refine gw_istore (pc := 110) (lv' := [(12, .int r107), (0, .ref (ad 6)), (1, .int a1), (3, .int a3), (4, .int y4), (5, .long y5), (7, .long y7), (10, .int y10), (11, .int x11)]) F d_Painter_drawRows_110 (by decide) rfl ?_
      refine gw_aload_n (pc := 112) F 1 d_Painter_drawRows_112 rfl rfl ?_
      refine cg_Painter_rightXs (pc := 113) F tw_73 d_Painter_drawRows_113 ?_
      refine gw_iload_n (pc := 116) F 2 d_Painter_drawRows_116 rfl rfl ?_
      refine cl_RXs (pc := 117) F (gw_in15 hb1) d_Painter_drawRows_117 ?_
      refine gw_lload (pc := 118) F 6 d_Painter_drawRows_118 rfl ?_
      refine gw_iload (pc := 120) F 8 d_Painter_drawRows_120 rfl ?_
      refine gw_cS (pc := 122) (As := [.int (S107 11 (a1 : Int32).toNatClampNeg), .long y7, .int x11]) (rest := []) F (c_Painter_edgeAt (gw_FJ F) S107 (S107 11 (a1 : Int32).toNatClampNeg) y7 x11) cw_Painter_edgeAt cv_Painter_edgeAt tw_369 rfl (by decide) (by decide) rfl rfl (Nat.le_of_ble_eq_true rfl) d_Painter_drawRows_122 (gw_bI (P := fun r U => cOK U) (po_ok_Painter_edgeAt S107 (S107 11 (a1 : Int32).toNatClampNeg) y7 x11 p107.1) (fun r122 S122 p122 => ?_))
      refine gw_bipush (pc := 125) (v := (63 : Int32)) F d_Painter_drawRows_125 (by decide) ?_
      refine gw_cS (pc := 127) (As := [.int r122, .int (63 : Int32)]) (rest := []) F (c_Math_min (gw_FJ F) S122 r122 (63 : Int32)) cw_Math_min cv_Math_min tw_366 rfl (by decide) (by decide) rfl rfl (Nat.le_of_ble_eq_true rfl) d_Painter_drawRows_127 (gw_bI (P := fun r U => cOK U ∧ r.toInt ≤ 63) ⟨(po_ok_Math_min S122 r122 (63 : Int32) p122), (cb_min63 S122 r122)⟩ (fun r127 S127 p127 => ?_))
      refine gw_istore (pc := 130) (lv' := [(13, .int r127), (12, .int r107), (0, .ref (ad 6)), (1, .int a1), (3, .int a3), (4, .int y4), (5, .long y5), (7, .long y7), (10, .int y10), (11, .int x11)]) F d_Painter_drawRows_130 (by decide) rfl ?_
      refine gw_iload (pc := 132) F 1 d_Painter_drawRows_132 rfl ?_
      refine gw_iload (pc := 134) F 0 d_Painter_drawRows_134 rfl ?_
      refine gw_icmp_gtS (pc := 136) (tgt := 187) F d_Painter_drawRows_136 (by decide) (fun h136 => ?_) (fun h136 => ?_)
      · refine gw_iinc (pc := 187) (v := (x11 + (1 : Int32))) (lv' := [(11, .int (x11 + (1 : Int32))), (13, .int r127), (12, .int r107), (0, .ref (ad 6)), (1, .int a1), (3, .int a3), (4, .int y4), (5, .long y5), (7, .long y7), (10, .int y10)]) F 9 d_Painter_drawRows_187 rfl (congrArg (HAdd.hAdd x11) (by decide)) (by decide) rfl ?_
        refine gw_goto (pc := 190) (tgt := 86) F d_Painter_drawRows_190 (by decide) ?_
        refine gw_lvs (lv' := [(0, .ref (ad 6)), (1, .int a1), (3, .int a3), (4, .int y4), (5, .long y5), (7, .long y7), (10, .int y10), (11, .int (x11 + (1 : Int32)))]) [3, 4, 5, 6, 7, 8, 9, 0] rfl ?_
        exact ih S127 (x11 + (1 : Int32)) (gw_stp h90 hf).1 (gw_stp h90 hf).2.1 p127.1 (gw_t1 h90 ht)
      · refine gw_aload_n (pc := 139) F 2 d_Painter_drawRows_139 rfl rfl ?_
        refine cg_Painter_pages (pc := 140) F tw_70 d_Painter_drawRows_140 ?_
        refine gw_iload (pc := 143) F 5 d_Painter_drawRows_143 rfl ?_
        refine gw_iload (pc := 145) F 9 d_Painter_drawRows_145 rfl ?_
        refine gw_iadd (pc := 147) F d_Painter_drawRows_147 ?_
        refine gw_cV (pc := 148) (As := [.int (y4 + x11)]) (rest := []) F (c_Pages_startOfRow (gw_FJ F) S127 (y4 + x11)) cw_Pages_startOfRow cv_Pages_startOfRow tw_373 rfl (by decide) (by decide) (by decide) cE_Pages rfl rfl rfl rfl (Nat.le_of_ble_eq_true rfl) d_Painter_drawRows_148 (gw_bI (P := fun r U => cOK U ∧ r = (S127 9 1) * (2560 : Int32) + (y4 + x11) * (64 : Int32)) ⟨(po_ok_Pages_startOfRow S127 (y4 + x11) p127.1), rfl⟩ (fun r148 S148 p148 => ?_))
        refine gw_istore (pc := 151) (lv' := [(14, .int r148), (13, .int r127), (12, .int r107), (0, .ref (ad 6)), (1, .int a1), (3, .int a3), (4, .int y4), (5, .long y5), (7, .long y7), (10, .int y10), (11, .int x11)]) F d_Painter_drawRows_151 (by decide) rfl ?_
        refine gw_aload_n (pc := 153) F 3 d_Painter_drawRows_153 rfl rfl ?_
        refine cg_Painter_pages (pc := 154) F tw_70 d_Painter_drawRows_154 ?_
        refine cgN_Pages_pixels (pc := 157) F tw_53 d_Painter_drawRows_157 ?_
        refine gw_iload (pc := 160) F 0 d_Painter_drawRows_160 rfl ?_
        refine gw_iload (pc := 162) F 2 d_Painter_drawRows_162 rfl ?_
        refine gw_iadd (pc := 164) F d_Painter_drawRows_164 ?_
        refine gw_iload (pc := 165) F 0 d_Painter_drawRows_165 rfl ?_
        refine gw_iload (pc := 167) F 1 d_Painter_drawRows_167 rfl ?_
        refine gw_iadd (pc := 169) F d_Painter_drawRows_169 ?_
        refine gw_iconst (pc := 170) (v := (1 : Int32)) F d_Painter_drawRows_170 (by decide) ?_
        refine gw_iadd (pc := 171) F d_Painter_drawRows_171 ?_
        refine gw_iload_n (pc := 172) F 5 d_Painter_drawRows_172 rfl rfl ?_
        refine gw_i2b (pc := 173) F d_Painter_drawRows_173 ?_
        refine gw_cS (pc := 174) (As := [.ref (ad 10), .int (r148 + r107), .int ((r148 + r127) + (1 : Int32)), .int ((a3 : Int32).toInt8.toInt32)]) (rest := []) F (c_Arrays_fill (gw_FJ F) S148 (r148 + r107) ((r148 + r127) + (1 : Int32)) ((a3 : Int32).toInt8.toInt32) (dr_fill (((p127.1) 9 1).2.2.1 rfl (Or.inl rfl)) p148.2 ht h90 he p107.2 p127.2 h136).1 (dr_fill (((p127.1) 9 1).2.2.1 rfl (Or.inl rfl)) p148.2 ht h90 he p107.2 p127.2 h136).2.1 (dr_fill (((p127.1) 9 1).2.2.1 rfl (Or.inl rfl)) p148.2 ht h90 he p107.2 p127.2 h136).2.2) cw_Arrays_fill cv_Arrays_fill tw_377 rfl (by decide) (by decide) rfl rfl (Nat.le_of_ble_eq_true rfl) d_Painter_drawRows_174 (gw_bV (P := fun _ U => cOK U) (po_ok_Arrays_fill S148 (r148 + r107) ((r148 + r127) + (1 : Int32)) ((a3 : Int32).toInt8.toInt32) p148.1 (dr_fill (((p127.1) 9 1).2.2.1 rfl (Or.inl rfl)) p148.2 ht h90 he p107.2 p127.2 h136).1 (dr_fill (((p127.1) 9 1).2.2.1 rfl (Or.inl rfl)) p148.2 ht h90 he p107.2 p127.2 h136).2.1 (dr_fill (((p127.1) 9 1).2.2.1 rfl (Or.inl rfl)) p148.2 ht h90 he p107.2 p127.2 h136).2.2) (fun _ S174 p174 => ?_))
        refine gw_aload_n (pc := 177) F 3 d_Painter_drawRows_177 rfl rfl ?_
        refine gw_dup (pc := 178) F d_Painter_drawRows_178 rfl ?_
        refine cg_Painter_rowsInFrame (pc := 179) F tw_80 d_Painter_drawRows_179 ?_
        refine gw_iconst (pc := 182) (v := (1 : Int32)) F d_Painter_drawRows_182 (by decide) ?_
        refine gw_iadd (pc := 183) F d_Painter_drawRows_183 ?_
        refine cp_Painter_rowsInFrame (pc := 184) F tw_80 d_Painter_drawRows_184 ?_
        refine gw_nS (fun S184 E184 => ?_)
        refine gw_iinc (pc := 187) (v := (x11 + (1 : Int32))) (lv' := [(11, .int (x11 + (1 : Int32))), (14, .int r148), (13, .int r127), (12, .int r107), (0, .ref (ad 6)), (1, .int a1), (3, .int a3), (4, .int y4), (5, .long y5), (7, .long y7), (10, .int y10)]) F 10 d_Painter_drawRows_187 rfl (congrArg (HAdd.hAdd x11) (by decide)) (by decide) rfl ?_
        refine gw_goto (pc := 190) (tgt := 86) F d_Painter_drawRows_190 (by decide) ?_
        refine gw_lvs (lv' := [(0, .ref (ad 6)), (1, .int a1), (3, .int a3), (4, .int y4), (5, .long y5), (7, .long y7), (10, .int y10), (11, .int (x11 + (1 : Int32)))]) [4, 5, 6, 7, 8, 9, 10, 0] rfl ?_
        exact ih S184 (x11 + (1 : Int32)) (gw_stp h90 hf).1 (gw_stp h90 hf).2.1 (cOK_o E184 p174 (by omega)) (gw_t1 h90 ht)
noncomputable def f_Painter_drawRows   (S : gw_S) (a1 : Int32) (a2 : Int32) (a3 : Int32) : Unit × gw_S := (gw_n (S 13 (a1 : Int32).toNatClampNeg) fun v6 => gw_b (f_Math_fdJ S ((65536 : Int64) * ((((S 12 ((a1 + (1 : Int32)) : Int32).toNatClampNeg) - (S 12 (a1 : Int32).toNatClampNeg)) : Int32).toInt64)) ((a2 : Int32).toInt64)) fun r30 S30 => gw_b (f_Math_fdJ S30 ((65536 : Int64) * ((((S30 11 ((a1 + (1 : Int32)) : Int32).toNatClampNeg) - (S30 11 (a1 : Int32).toNatClampNeg)) : Int32).toInt64)) ((a2 : Int32).toInt64)) fun r57 S57 => gw_b (f_Math_max S57 (0 : Int32) (-v6)) fun r66 S66 => gw_b (f_Math_min S66 a2 ((40 : Int32) - v6)) fun r77 S77 => (fl_Painter_drawRows_86 a1 a3 v6 r30 r57 r77 (gw_fu ((r77 : Int32).toInt - (r66 : Int32).toInt)) S77 r66))
set_option maxHeartbeats 4000000 in
set_option maxRecDepth 100000 in
theorem c_Painter_drawRows (hJ : gw_J 46 ad)   (S : gw_S) (a1 : Int32) (a2 : Int32) (a3 : Int32) (hf_ok : cOK S) (hb1 : vp_in a1 15) (hr : 0 < a2.toInt) (hw : a2.toInt ≤ 4194304) : gw_M l y_Painter_drawRows prog_5_method_7_code 15 none gTs (gw_rm 3) D gCl (gTys cI cB cC cZ) 46 ad (cE ad cI cB cC) gw_rV [.ref (ad 6), .int a1, .int a2, .int a3] S (f_Painter_drawRows S a1 a2 a3) := by
  refine gw_start gTs_ok (plainFor_of_name (by decide)) hJ (Nat.le_of_ble_eq_true rfl) (fun X A F => ?_)
  refine gw_lve (lv' := [(0, .ref (ad 6)), (1, .int a1), (2, .int a2), (3, .int a3)]) rfl ?_
  unfold f_Painter_drawRows
  refine gw_aload_n (pc := 0) F 0 d_Painter_drawRows_0 rfl rfl ?_
  refine cg_Painter_pairYs (pc := 1) F tw_75 d_Painter_drawRows_1 ?_
  refine gw_iload_n (pc := 4) F 1 d_Painter_drawRows_4 rfl rfl ?_
  refine cl_PYs (pc := 5) F (gw_in15 hb1) d_Painter_drawRows_5 ?_
  refine gw_nI (fun v6 e6 => ?_)
  refine gw_istore (pc := 6) (lv' := [(4, .int v6), (0, .ref (ad 6)), (1, .int a1), (2, .int a2), (3, .int a3)]) F d_Painter_drawRows_6 (by decide) rfl ?_
  refine gw_ldc2 (pc := 8) (v := (65536 : Int64)) F tw_359 d_Painter_drawRows_8 ?_
  refine gw_aload_n (pc := 11) F 1 d_Painter_drawRows_11 rfl rfl ?_
  refine cg_Painter_leftXs (pc := 12) F tw_74 d_Painter_drawRows_12 ?_
  refine gw_iload_n (pc := 15) F 2 d_Painter_drawRows_15 rfl rfl ?_
  refine gw_iconst (pc := 16) (v := (1 : Int32)) F d_Painter_drawRows_16 (by decide) ?_
  refine gw_iadd (pc := 17) F d_Painter_drawRows_17 ?_
  refine cl_LXs (pc := 18) F (gw_in15s hb1) d_Painter_drawRows_18 ?_
  refine gw_aload_n (pc := 19) F 1 d_Painter_drawRows_19 rfl rfl ?_
  refine cg_Painter_leftXs (pc := 20) F tw_74 d_Painter_drawRows_20 ?_
  refine gw_iload_n (pc := 23) F 2 d_Painter_drawRows_23 rfl rfl ?_
  refine cl_LXs (pc := 24) F (gw_in15 hb1) d_Painter_drawRows_24 ?_
  refine gw_isub (pc := 25) F d_Painter_drawRows_25 ?_
  refine gw_i2l (pc := 26) F d_Painter_drawRows_26 ?_
  refine gw_lmul (pc := 27) F d_Painter_drawRows_27 ?_
  refine gw_iload_n (pc := 28) F 3 d_Painter_drawRows_28 rfl rfl ?_
  refine gw_i2l (pc := 29) F d_Painter_drawRows_29 ?_
  refine gw_cS (pc := 30) (As := [.long ((65536 : Int64) * ((((S 12 ((a1 + (1 : Int32)) : Int32).toNatClampNeg) - (S 12 (a1 : Int32).toNatClampNeg)) : Int32).toInt64)), .long ((a2 : Int32).toInt64)]) (rest := []) F (c_Math_fdJ (gw_FJ F) S ((65536 : Int64) * ((((S 12 ((a1 + (1 : Int32)) : Int32).toNatClampNeg) - (S 12 (a1 : Int32).toNatClampNeg)) : Int32).toInt64)) ((a2 : Int32).toInt64) (gw_nz64 hr)) cw_Math_fdJ cv_Math_fdJ tw_360 rfl (by decide) (by decide) rfl rfl (Nat.le_of_ble_eq_true rfl) d_Painter_drawRows_30 (gw_bJ (P := fun r U => cOK U) (po_ok_Math_fdJ S ((65536 : Int64) * ((((S 12 ((a1 + (1 : Int32)) : Int32).toNatClampNeg) - (S 12 (a1 : Int32).toNatClampNeg)) : Int32).toInt64)) ((a2 : Int32).toInt64) hf_ok (gw_nz64 hr)) (fun r30 S30 p30 => ?_))
  refine gw_lstore (pc := 33) (lv' := [(5, .long r30), (4, .int v6), (0, .ref (ad 6)), (1, .int a1), (2, .int a2), (3, .int a3)]) F d_Painter_drawRows_33 (by decide) rfl ?_
  refine gw_ldc2 (pc := 35) (v := (65536 : Int64)) F tw_359 d_Painter_drawRows_35 ?_
  refine gw_aload_n (pc := 38) F 2 d_Painter_drawRows_38 rfl rfl ?_
  refine cg_Painter_rightXs (pc := 39) F tw_73 d_Painter_drawRows_39 ?_
  refine gw_iload_n (pc := 42) F 3 d_Painter_drawRows_42 rfl rfl ?_
  refine gw_iconst (pc := 43) (v := (1 : Int32)) F d_Painter_drawRows_43 (by decide) ?_
  refine gw_iadd (pc := 44) F d_Painter_drawRows_44 ?_
  refine cl_RXs (pc := 45) F (gw_in15s hb1) d_Painter_drawRows_45 ?_
  refine gw_aload_n (pc := 46) F 2 d_Painter_drawRows_46 rfl rfl ?_
  refine cg_Painter_rightXs (pc := 47) F tw_73 d_Painter_drawRows_47 ?_
  refine gw_iload_n (pc := 50) F 3 d_Painter_drawRows_50 rfl rfl ?_
  refine cl_RXs (pc := 51) F (gw_in15 hb1) d_Painter_drawRows_51 ?_
  refine gw_isub (pc := 52) F d_Painter_drawRows_52 ?_
  refine gw_i2l (pc := 53) F d_Painter_drawRows_53 ?_
  refine gw_lmul (pc := 54) F d_Painter_drawRows_54 ?_
  refine gw_iload_n (pc := 55) F 4 d_Painter_drawRows_55 rfl rfl ?_
  refine gw_i2l (pc := 56) F d_Painter_drawRows_56 ?_
  refine gw_cS (pc := 57) (As := [.long ((65536 : Int64) * ((((S30 11 ((a1 + (1 : Int32)) : Int32).toNatClampNeg) - (S30 11 (a1 : Int32).toNatClampNeg)) : Int32).toInt64)), .long ((a2 : Int32).toInt64)]) (rest := []) F (c_Math_fdJ (gw_FJ F) S30 ((65536 : Int64) * ((((S30 11 ((a1 + (1 : Int32)) : Int32).toNatClampNeg) - (S30 11 (a1 : Int32).toNatClampNeg)) : Int32).toInt64)) ((a2 : Int32).toInt64) (gw_nz64 hr)) cw_Math_fdJ cv_Math_fdJ tw_360 rfl (by decide) (by decide) rfl rfl (Nat.le_of_ble_eq_true rfl) d_Painter_drawRows_57 (gw_bJ (P := fun r U => cOK U) (po_ok_Math_fdJ S30 ((65536 : Int64) * ((((S30 11 ((a1 + (1 : Int32)) : Int32).toNatClampNeg) - (S30 11 (a1 : Int32).toNatClampNeg)) : Int32).toInt64)) ((a2 : Int32).toInt64) p30 (gw_nz64 hr)) (fun r57 S57 p57 => ?_))
  refine gw_lstore (pc := 60) (lv' := [(7, .long r57), (5, .long r30), (4, .int v6), (0, .ref (ad 6)), (1, .int a1), (2, .int a2), (3, .int a3)]) F d_Painter_drawRows_60 (by decide) rfl ?_
  refine gw_iconst (pc := 62) (v := (0 : Int32)) F d_Painter_drawRows_62 (by decide) ?_
  refine gw_iload (pc := 63) F 2 d_Painter_drawRows_63 rfl ?_
  refine gw_ineg (pc := 65) F d_Painter_drawRows_65 ?_
  refine gw_cS (pc := 66) (As := [.int (0 : Int32), .int (-v6)]) (rest := []) F (c_Math_max (gw_FJ F) S57 (0 : Int32) (-v6)) cw_Math_max cv_Math_max tw_363 rfl (by decide) (by decide) rfl rfl (Nat.le_of_ble_eq_true rfl) d_Painter_drawRows_66 (gw_bI (P := fun r U => cOK U ∧ 0 ≤ v6.toInt + r.toInt) ⟨(po_ok_Math_max S57 (0 : Int32) (-v6) p57), (cb_first S57 v6 (cOK_yy hf_ok e6))⟩ (fun r66 S66 p66 => ?_))
  refine gw_istore (pc := 69) (lv' := [(9, .int r66), (7, .long r57), (5, .long r30), (4, .int v6), (0, .ref (ad 6)), (1, .int a1), (2, .int a2), (3, .int a3)]) F d_Painter_drawRows_69 (by decide) rfl ?_
  refine gw_iload_n (pc := 71) F 6 d_Painter_drawRows_71 rfl rfl ?_
  refine gw_bipush (pc := 72) (v := (40 : Int32)) F d_Painter_drawRows_72 (by decide) ?_
  refine gw_iload (pc := 74) F 3 d_Painter_drawRows_74 rfl ?_
  refine gw_isub (pc := 76) F d_Painter_drawRows_76 ?_
  refine gw_cS (pc := 77) (As := [.int a2, .int ((40 : Int32) - v6)]) (rest := []) F (c_Math_min (gw_FJ F) S66 a2 ((40 : Int32) - v6)) cw_Math_min cv_Math_min tw_366 rfl (by decide) (by decide) rfl rfl (Nat.le_of_ble_eq_true rfl) d_Painter_drawRows_77 (gw_bI (P := fun r U => cOK U ∧ r.toInt ≤ 40 - v6.toInt) ⟨(po_ok_Math_min S66 a2 ((40 : Int32) - v6) p66.1), (cb_end S66 a2 v6 (cOK_yy hf_ok e6))⟩ (fun r77 S77 p77 => ?_))
  refine gw_istore (pc := 80) (lv' := [(10, .int r77), (9, .int r66), (7, .long r57), (5, .long r30), (4, .int v6), (0, .ref (ad 6)), (1, .int a1), (2, .int a2), (3, .int a3)]) F d_Painter_drawRows_80 (by decide) rfl ?_
  refine gw_iload (pc := 82) F 1 d_Painter_drawRows_82 rfl ?_
  refine gw_istore (pc := 84) (lv' := [(11, .int r66), (10, .int r77), (9, .int r66), (7, .long r57), (5, .long r30), (4, .int v6), (0, .ref (ad 6)), (1, .int a1), (2, .int a2), (3, .int a3)]) F d_Painter_drawRows_84 (by decide) rfl ?_
  refine gw_lvs (lv' := [(0, .ref (ad 6)), (1, .int a1), (3, .int a3), (4, .int v6), (5, .long r30), (7, .long r57), (10, .int r77), (11, .int r66)]) [6, 7, 9, 5, 4, 3, 1, 0] rfl ?_
  exact l_Painter_drawRows_86  F a1 a3 v6 r30 r57 r77 hb1 p77.2 (gw_fu ((r77 : Int32).toInt - (r66 : Int32).toInt)) S77 r66 (gw_fu_pos _) (gw_fu_lt _) p77.1 p66.2
set_option maxHeartbeats 4000000 in
set_option maxRecDepth 100000 in
theorem pl_ok_Painter_drawRows_86  (a1 : Int32) (a3 : Int32) (y4 : Int32) (y5 : Int64) (y7 : Int64) (y10 : Int32) (hb1 : vp_in a1 15) (he : y10.toInt ≤ 40 - y4.toInt) : ∀ (n : Nat) (S : gw_S) (x11 : Int32), 0 < n → (y10 : Int32).toInt - x11.toInt < (n : Int) → cOK S → 0 ≤ y4.toInt + x11.toInt → cOK (fl_Painter_drawRows_86 a1 a3 y4 y5 y7 y10 n S x11).2 := by
  intro n
  induction n with
  | zero => intro S x11 hn hf hf_ok ht; exact absurd hn (Nat.lt_irrefl 0)
  | succ n ih =>
    intro S x11 hn hf hf_ok ht
    refine po_if (Φ := fun p : Unit × gw_S => cOK p.2) (fun h90 => ?_) (fun h90 => ?_)
    · exact hf_ok
    · refine po_b (Φ := fun p : Unit × gw_S => cOK p.2) (P := fun r U => cOK U) (po_ok_Painter_edgeAt S (S 12 (a1 : Int32).toNatClampNeg) y5 x11 hf_ok) (fun r103 S103 p103 => ?_)
      refine po_b (Φ := fun p : Unit × gw_S => cOK p.2) (P := fun r U => cOK U ∧ 0 ≤ r.toInt) ⟨(po_ok_Math_max S103 r103 (0 : Int32) p103), (cb_max0 S103 r103)⟩ (fun r107 S107 p107 => ?_)
      refine po_b (Φ := fun p : Unit × gw_S => cOK p.2) (P := fun r U => cOK U) (po_ok_Painter_edgeAt S107 (S107 11 (a1 : Int32).toNatClampNeg) y7 x11 p107.1) (fun r122 S122 p122 => ?_)
      refine po_b (Φ := fun p : Unit × gw_S => cOK p.2) (P := fun r U => cOK U ∧ r.toInt ≤ 63) ⟨(po_ok_Math_min S122 r122 (63 : Int32) p122), (cb_min63 S122 r122)⟩ (fun r127 S127 p127 => ?_)
      refine po_if (Φ := fun p : Unit × gw_S => cOK p.2) (fun h136 => ?_) (fun h136 => ?_)
      · exact ih S127 (x11 + (1 : Int32)) (gw_stp h90 hf).1 (gw_stp h90 hf).2.1 p127.1 (gw_t1 h90 ht)
      · refine po_b (Φ := fun p : Unit × gw_S => cOK p.2) (P := fun r U => cOK U ∧ r = (S127 9 1) * (2560 : Int32) + (y4 + x11) * (64 : Int32)) ⟨(po_ok_Pages_startOfRow S127 (y4 + x11) p127.1), rfl⟩ (fun r148 S148 p148 => ?_)
        refine po_b (Φ := fun p : Unit × gw_S => cOK p.2) (P := fun _ U => cOK U) (po_ok_Arrays_fill S148 (r148 + r107) ((r148 + r127) + (1 : Int32)) ((a3 : Int32).toInt8.toInt32) p148.1 (dr_fill (((p127.1) 9 1).2.2.1 rfl (Or.inl rfl)) p148.2 ht h90 he p107.2 p127.2 h136).1 (dr_fill (((p127.1) 9 1).2.2.1 rfl (Or.inl rfl)) p148.2 ht h90 he p107.2 p127.2 h136).2.1 (dr_fill (((p127.1) 9 1).2.2.1 rfl (Or.inl rfl)) p148.2 ht h90 he p107.2 p127.2 h136).2.2) (fun _ S174 p174 => ?_)
        refine po_n (Φ := fun p : Unit × gw_S => cOK p.2) (fun S184 E184 => ?_)
        exact ih S184 (x11 + (1 : Int32)) (gw_stp h90 hf).1 (gw_stp h90 hf).2.1 (cOK_o E184 p174 (by omega)) (gw_t1 h90 ht)
set_option maxHeartbeats 4000000 in
set_option maxRecDepth 100000 in
theorem po_ok_Painter_drawRows   (S : gw_S) (a1 : Int32) (a2 : Int32) (a3 : Int32) (hf_ok : cOK S) (hb1 : vp_in a1 15) (hr : 0 < a2.toInt) (hw : a2.toInt ≤ 4194304) : cOK (f_Painter_drawRows S a1 a2 a3).2 := by
  unfold f_Painter_drawRows
  refine po_n (Φ := fun p : Unit × gw_S => cOK p.2) (fun v6 e6 => ?_)
  refine po_b (Φ := fun p : Unit × gw_S => cOK p.2) (P := fun r U => cOK U) (po_ok_Math_fdJ S ((65536 : Int64) * ((((S 12 ((a1 + (1 : Int32)) : Int32).toNatClampNeg) - (S 12 (a1 : Int32).toNatClampNeg)) : Int32).toInt64)) ((a2 : Int32).toInt64) hf_ok (gw_nz64 hr)) (fun r30 S30 p30 => ?_)
  refine po_b (Φ := fun p : Unit × gw_S => cOK p.2) (P := fun r U => cOK U) (po_ok_Math_fdJ S30 ((65536 : Int64) * ((((S30 11 ((a1 + (1 : Int32)) : Int32).toNatClampNeg) - (S30 11 (a1 : Int32).toNatClampNeg)) : Int32).toInt64)) ((a2 : Int32).toInt64) p30 (gw_nz64 hr)) (fun r57 S57 p57 => ?_)
  refine po_b (Φ := fun p : Unit × gw_S => cOK p.2) (P := fun r U => cOK U ∧ 0 ≤ v6.toInt + r.toInt) ⟨(po_ok_Math_max S57 (0 : Int32) (-v6) p57), (cb_first S57 v6 (cOK_yy hf_ok e6))⟩ (fun r66 S66 p66 => ?_)
  refine po_b (Φ := fun p : Unit × gw_S => cOK p.2) (P := fun r U => cOK U ∧ r.toInt ≤ 40 - v6.toInt) ⟨(po_ok_Math_min S66 a2 ((40 : Int32) - v6) p66.1), (cb_end S66 a2 v6 (cOK_yy hf_ok e6))⟩ (fun r77 S77 p77 => ?_)
  exact pl_ok_Painter_drawRows_86 a1 a3 v6 r30 r57 r77 hb1 p77.2 (gw_fu ((r77 : Int32).toInt - (r66 : Int32).toInt)) S77 r66 (gw_fu_pos _) (gw_fu_lt _) p77.1 p66.2
noncomputable def fl_Painter_drawPolygon_2   (a1 : Int32) (a2 : Int32) (n : Nat) : gw_S → Int32 → Unit × gw_S := gw_L1 (fun self S x3 => (if a1 ≤ (x3 + (1 : Int32)) then (((), S)) else (gw_n ((S 13 ((x3 + (1 : Int32)) : Int32).toNatClampNeg) - (S 13 (x3 : Int32).toNatClampNeg)) fun v24 => if v24 ≤ 0 then (self S (x3 + (1 : Int32))) else (gw_b (f_Painter_drawRows S x3 v24 a2) fun _ S36 => (self S36 (x3 + (1 : Int32))))))) (fun S _ => ((), S)) n
set_option maxHeartbeats 4000000 in
set_option maxRecDepth 100000 in
theorem l_Painter_drawPolygon_2 {X : gx_M} {A : Nat → Prop}  (F : gw_F X l prog_5_method_6_code 5 none "StageMachine$Painter" gTs (gw_rm 4) D gCl (gTys cI cB cC cZ) 46 ad A) (a1 : Int32) (a2 : Int32) (hb1 : vp_in a1 16) : ∀ (n : Nat) (S : gw_S) (x3 : Int32), 0 < n → (a1 : Int32).toInt - (x3 + (1 : Int32)).toInt < (n : Int) → (x3 + (1 : Int32)).toInt = x3.toInt + 1 → 0 ≤ x3.toInt → cOK S → gw_V X (gw_P D gCl 46 ad (cE ad cI cB cC)) A 5 gw_rV S 2 [(0, .ref (ad 6)), (1, .int a1), (2, .int a2), (3, .int x3)] [] (fl_Painter_drawPolygon_2 a1 a2 n S x3) := by
  intro n
  induction n with
  | zero => intro S x3 hn hf h1 h0 hf_ok; exact absurd hn (Nat.lt_irrefl 0)
  | succ n ih =>
    intro S x3 hn hf h1 h0 hf_ok
    refine gw_iload_n (pc := 2) F 3 d_Painter_drawPolygon_2 rfl rfl ?_
    refine gw_iconst (pc := 3) (v := (1 : Int32)) F d_Painter_drawPolygon_3 (by decide) ?_
    refine gw_iadd (pc := 4) F d_Painter_drawPolygon_4 ?_
    refine gw_iload_n (pc := 5) F 1 d_Painter_drawPolygon_5 rfl rfl ?_
    refine gw_icmp_geS (pc := 6) (tgt := 45) F d_Painter_drawPolygon_6 (by decide) (fun h6 => ?_) (fun h6 => ?_)
    · exact gw_vret (pc := 45) F d_Painter_drawPolygon_45
    · refine gw_aload_n (pc := 9) F 0 d_Painter_drawPolygon_9 rfl rfl ?_
      refine cg_Painter_pairYs (pc := 10) F tw_75 d_Painter_drawPolygon_10 ?_
      refine gw_iload_n (pc := 13) F 3 d_Painter_drawPolygon_13 rfl rfl ?_
      refine gw_iconst (pc := 14) (v := (1 : Int32)) F d_Painter_drawPolygon_14 (by decide) ?_
      refine gw_iadd (pc := 15) F d_Painter_drawPolygon_15 ?_
      refine cl_PYs (pc := 16) F (gw_inL hb1 h6 (gw_up1 h1 h0)) d_Painter_drawPolygon_16 ?_
      refine gw_aload_n (pc := 17) F 0 d_Painter_drawPolygon_17 rfl rfl ?_
      refine cg_Painter_pairYs (pc := 18) F tw_75 d_Painter_drawPolygon_18 ?_
      refine gw_iload_n (pc := 21) F 3 d_Painter_drawPolygon_21 rfl rfl ?_
      refine cl_PYs (pc := 22) F (gw_in15 (gw_inP hb1 h6 h1 h0)) d_Painter_drawPolygon_22 ?_
      refine gw_isub (pc := 23) F d_Painter_drawPolygon_23 ?_
      refine gw_nI (fun v24 e24 => ?_)
      refine gw_istore (pc := 24) (lv' := [(4, .int v24), (0, .ref (ad 6)), (1, .int a1), (2, .int a2), (3, .int x3)]) F d_Painter_drawPolygon_24 (by decide) rfl ?_
      refine gw_iload (pc := 26) F 0 d_Painter_drawPolygon_26 rfl ?_
      refine gw_if_leS (pc := 28) (tgt := 39) F d_Painter_drawPolygon_28 (by decide) (fun h28 => ?_) (fun h28 => ?_)
      · refine gw_iinc (pc := 39) (v := (x3 + (1 : Int32))) (lv' := [(3, .int (x3 + (1 : Int32))), (4, .int v24), (0, .ref (ad 6)), (1, .int a1), (2, .int a2)]) F 4 d_Painter_drawPolygon_39 rfl (congrArg (HAdd.hAdd x3) (by decide)) (by decide) rfl ?_
        refine gw_goto (pc := 42) (tgt := 2) F d_Painter_drawPolygon_42 (by decide) ?_
        refine gw_lvs (lv' := [(0, .ref (ad 6)), (1, .int a1), (2, .int a2), (3, .int (x3 + (1 : Int32)))]) [2, 3, 4, 0] rfl ?_
        exact ih S (x3 + (1 : Int32)) (gw_stp h6 hf).1 (gw_stp h6 hf).2.1 (gw_lt1 h6) (gw_up1 h1 h0) hf_ok
      · refine gw_aload_n (pc := 31) F 1 d_Painter_drawPolygon_31 rfl rfl ?_
        refine gw_iload_n (pc := 32) F 4 d_Painter_drawPolygon_32 rfl rfl ?_
        refine gw_iload (pc := 33) F 0 d_Painter_drawPolygon_33 rfl ?_
        refine gw_iload_n (pc := 35) F 3 d_Painter_drawPolygon_35 rfl rfl ?_
        refine gw_cV (pc := 36) (As := [.int x3, .int v24, .int a2]) (rest := []) F (c_Painter_drawRows (gw_FJ F) S x3 v24 a2 hf_ok (gw_inP hb1 h6 h1 h0) (gw_posI h28) (cRw e24 hf_ok)) cw_Painter_drawRows cv_Painter_drawRows tw_355 rfl (by decide) (by decide) (by decide) cE_Painter rfl rfl rfl rfl (Nat.le_of_ble_eq_true rfl) d_Painter_drawPolygon_36 (gw_bV (P := fun _ U => cOK U) (po_ok_Painter_drawRows S x3 v24 a2 hf_ok (gw_inP hb1 h6 h1 h0) (gw_posI h28) (cRw e24 hf_ok)) (fun _ S36 p36 => ?_))
        refine gw_iinc (pc := 39) (v := (x3 + (1 : Int32))) (lv' := [(3, .int (x3 + (1 : Int32))), (4, .int v24), (0, .ref (ad 6)), (1, .int a1), (2, .int a2)]) F 4 d_Painter_drawPolygon_39 rfl (congrArg (HAdd.hAdd x3) (by decide)) (by decide) rfl ?_
        refine gw_goto (pc := 42) (tgt := 2) F d_Painter_drawPolygon_42 (by decide) ?_
        refine gw_lvs (lv' := [(0, .ref (ad 6)), (1, .int a1), (2, .int a2), (3, .int (x3 + (1 : Int32)))]) [2, 3, 4, 0] rfl ?_
        exact ih S36 (x3 + (1 : Int32)) (gw_stp h6 hf).1 (gw_stp h6 hf).2.1 (gw_lt1 h6) (gw_up1 h1 h0) p36
noncomputable def f_Painter_drawPolygon   (S : gw_S) (a1 : Int32) (a2 : Int32) : Unit × gw_S := (fl_Painter_drawPolygon_2 a1 a2 (gw_fu ((a1 : Int32).toInt - (((0 : Int32) : Int32) + (1 : Int32)).toInt)) S (0 : Int32))
set_option maxHeartbeats 4000000 in
set_option maxRecDepth 100000 in
theorem c_Painter_drawPolygon (hJ : gw_J 46 ad)   (S : gw_S) (a1 : Int32) (a2 : Int32) (hf_ok : cOK S) (hb1 : vp_in a1 16) : gw_M l y_Painter_drawPolygon prog_5_method_6_code 5 none gTs (gw_rm 4) D gCl (gTys cI cB cC cZ) 46 ad (cE ad cI cB cC) gw_rV [.ref (ad 6), .int a1, .int a2] S (f_Painter_drawPolygon S a1 a2) := by
  refine gw_start gTs_ok (plainFor_of_name (by decide)) hJ (Nat.le_of_ble_eq_true rfl) (fun X A F => ?_)
  refine gw_lve (lv' := [(0, .ref (ad 6)), (1, .int a1), (2, .int a2)]) rfl ?_
  unfold f_Painter_drawPolygon
  refine gw_iconst (pc := 0) (v := (0 : Int32)) F d_Painter_drawPolygon_0 (by decide) ?_
  refine gw_istore_n (pc := 1) (lv' := [(3, .int (0 : Int32)), (0, .ref (ad 6)), (1, .int a1), (2, .int a2)]) F d_Painter_drawPolygon_1 rfl (by decide) rfl ?_
  refine gw_lvs (lv' := [(0, .ref (ad 6)), (1, .int a1), (2, .int a2), (3, .int (0 : Int32))]) [1, 2, 3, 0] rfl ?_
  exact l_Painter_drawPolygon_2  F a1 a2 hb1 (gw_fu ((a1 : Int32).toInt - (((0 : Int32) : Int32) + (1 : Int32)).toInt)) S (0 : Int32) (gw_fu_pos _) (gw_fu_lt _) (by decide) (by decide) hf_ok
set_option maxHeartbeats 4000000 in
set_option maxRecDepth 100000 in
theorem pl_ok_Painter_drawPolygon_2  (a1 : Int32) (a2 : Int32) (hb1 : vp_in a1 16) : ∀ (n : Nat) (S : gw_S) (x3 : Int32), 0 < n → (a1 : Int32).toInt - (x3 + (1 : Int32)).toInt < (n : Int) → (x3 + (1 : Int32)).toInt = x3.toInt + 1 → 0 ≤ x3.toInt → cOK S → cOK (fl_Painter_drawPolygon_2 a1 a2 n S x3).2 := by
  intro n
  induction n with
  | zero => intro S x3 hn hf h1 h0 hf_ok; exact absurd hn (Nat.lt_irrefl 0)
  | succ n ih =>
    intro S x3 hn hf h1 h0 hf_ok
    refine po_if (Φ := fun p : Unit × gw_S => cOK p.2) (fun h6 => ?_) (fun h6 => ?_)
    · exact hf_ok
    · refine po_n (Φ := fun p : Unit × gw_S => cOK p.2) (fun v24 e24 => ?_)
      refine po_if (Φ := fun p : Unit × gw_S => cOK p.2) (fun h28 => ?_) (fun h28 => ?_)
      · exact ih S (x3 + (1 : Int32)) (gw_stp h6 hf).1 (gw_stp h6 hf).2.1 (gw_lt1 h6) (gw_up1 h1 h0) hf_ok
      · refine po_b (Φ := fun p : Unit × gw_S => cOK p.2) (P := fun _ U => cOK U) (po_ok_Painter_drawRows S x3 v24 a2 hf_ok (gw_inP hb1 h6 h1 h0) (gw_posI h28) (cRw e24 hf_ok)) (fun _ S36 p36 => ?_)
        exact ih S36 (x3 + (1 : Int32)) (gw_stp h6 hf).1 (gw_stp h6 hf).2.1 (gw_lt1 h6) (gw_up1 h1 h0) p36
set_option maxHeartbeats 4000000 in
set_option maxRecDepth 100000 in
theorem po_ok_Painter_drawPolygon   (S : gw_S) (a1 : Int32) (a2 : Int32) (hf_ok : cOK S) (hb1 : vp_in a1 16) : cOK (f_Painter_drawPolygon S a1 a2).2 := by
  unfold f_Painter_drawPolygon
  exact pl_ok_Painter_drawPolygon_2 a1 a2 hb1 (gw_fu ((a1 : Int32).toInt - (((0 : Int32) : Int32) + (1 : Int32)).toInt)) S (0 : Int32) (gw_fu_pos _) (gw_fu_lt _) (by decide) (by decide) hf_ok
noncomputable def fl_Painter_drawGroup_61  (sh : gw_S → Int32 → Int32 → Int32 → Int32 → Int32 → Int32 → Unit × gw_S) (a4 : Int32) (a5 : Int32) (a6 : Int32) (y7 : Int32) (y8 : Int32) (y9 : Int32) (n : Nat) : gw_S → Int32 → Int32 → Unit × gw_S := gw_L2 (fun self S x10 x11 => (if y9 ≤ x11 then (((), S)) else (gw_b (f_Bytes_readPair 7 S x10) fun r74 S74 => gw_b (f_Bytes_read 7 S74 (x10 + (2 : Int32))) fun r89 S89 => gw_b (f_Painter_scaled S89 r89 a4) fun r94 S94 => gw_n (y7 + r94) fun v98 => gw_b (f_Bytes_read 7 S94 (x10 + (3 : Int32))) fun r110 S110 => gw_b (f_Painter_scaled S110 r110 a4) fun r115 S115 => gw_n (y8 + r115) fun v119 => if (r74 &&& (32768 : Int32)) = 0 then (gw_b (sh S115 (r74 &&& (1023 : Int32)) v98 v119 a4 a5 (a6 + (1 : Int32))) fun _ S181 => gw_n (x10 + (4 : Int32)) fun v197 => (self S181 v197 (x11 + (1 : Int32)))) else (gw_b (f_Bytes_read 7 S115 (x10 + (4 : Int32))) fun r149 S149 => gw_n (r149 &&& (15 : Int32)) fun v160 => gw_b (sh S149 (r74 &&& (1023 : Int32)) v98 v119 a4 v160 (a6 + (1 : Int32))) fun _ S181 => gw_n (x10 + (5 : Int32)) fun v197 => (self S181 v197 (x11 + (1 : Int32))))))) (fun S _ _ => ((), S)) n
set_option maxHeartbeats 4000000 in
set_option maxRecDepth 100000 in
theorem l_Painter_drawGroup_61 {X : gx_M} {A : Nat → Prop} {K dS : Nat} {sh : gw_S → Int32 → Int32 → Int32 → Int32 → Int32 → Int32 → Unit × gw_S} (hK : K ≤ 5) (hdS : 4 ≤ dS) (hsh : ∀ (S : gw_S) (b1 b2 b3 b4 b5 b6 : Int32), cOK S → cXb b6 b2 → cXb b6 b3 → cSh b4 → b6.toInt + ((K - 1 : Nat) : Int) = 5 → gw_M l y_Painter_drawShape prog_5_method_3_code 8 none gTs (gw_rm dS) D gCl (gTys cI cB cC cZ) 46 ad (cE ad cI cB cC) gw_rV [.ref (ad 6), .int b1, .int b2, .int b3, .int b4, .int b5, .int b6] S (sh S b1 b2 b3 b4 b5 b6)) (hso : ∀ (S : gw_S) (b1 b2 b3 b4 b5 b6 : Int32), cOK S → cXb b6 b2 → cXb b6 b3 → cSh b4 → b6.toInt + ((K - 1 : Nat) : Int) = 5 → cOK (sh S b1 b2 b3 b4 b5 b6).2) (F : gw_F X l prog_5_method_4_code 17 none "StageMachine$Painter" gTs (gw_rm (dS + 1)) D gCl (gTys cI cB cC cZ) 46 ad A) (a4 : Int32) (a5 : Int32) (a6 : Int32) (y7 : Int32) (y8 : Int32) (y9 : Int32) (h7x : cGb a6 y7) (h8x : cGb a6 y8) (hz : cSh a4) (h6 : a6.toInt + (K : Int) = 5) (h4 : a6.toInt ≤ 4) : ∀ (n : Nat) (S : gw_S) (x10 x11 : Int32), 0 < n → (y9 : Int32).toInt - x11.toInt < (n : Int) → cOK S → gw_V X (gw_P D gCl 46 ad (cE ad cI cB cC)) A 17 gw_rV S 61 [(0, .ref (ad 6)), (4, .int a4), (5, .int a5), (6, .int a6), (7, .int y7), (8, .int y8), (9, .int y9), (10, .int x10), (11, .int x11)] [] (fl_Painter_drawGroup_61 sh a4 a5 a6 y7 y8 y9 n S x10 x11) := by
  intro n
  induction n with
  | zero => intro S x10 x11 hn hf hf_ok; exact absurd hn (Nat.lt_irrefl 0)
  | succ n ih =>
    intro S x10 x11 hn hf hf_ok
    refine gw_iload (pc := 61) F 8 d_Painter_drawGroup_61 rfl ?_
    refine gw_iload (pc := 63) F 6 d_Painter_drawGroup_63 rfl ?_
    refine gw_icmp_geS (pc := 65) (tgt := 205) F d_Painter_drawGroup_65 (by decide) (fun h65 => ?_) (fun h65 => ?_)
    · exact gw_vret (pc := 205) F d_Painter_drawGroup_205
    · refine gw_aload_n (pc := 68) F 0 d_Painter_drawGroup_68 rfl rfl ?_
      refine cg_Painter_shapes (pc := 69) F tw_68 d_Painter_drawGroup_69 ?_
      refine gw_iload (pc := 72) F 7 d_Painter_drawGroup_72 rfl ?_
      refine gw_cV (pc := 74) (As := [.int x10]) (rest := []) F (c_Bytes_readPair (gw_FJ F) (Or.inr rfl) S x10) cw_Bytes_readPair cv_Bytes_readPair tw_382 rfl (by omega) (by decide) (chi_Bytes (Or.inr rfl)) (cE_Bytes (Or.inr rfl)) rfl rfl rfl rfl (Nat.le_of_ble_eq_true rfl) d_Painter_drawGroup_74 (gw_bI (P := fun r U => cOK U) (po_ok_Bytes_readPair (Or.inr rfl) S x10 hf_ok) (fun r74 S74 p74 => ?_))
      refine gw_istore (pc := 77) (lv' := [(12, .int r74), (0, .ref (ad 6)), (4, .int a4), (5, .int a5), (6, .int a6), (7, .int y7), (8, .int y8), (9, .int y9), (10, .int x10), (11, .int x11)]) F d_Painter_drawGroup_77 (by decide) rfl ?_
      refine gw_iload (pc := 79) F 5 d_Painter_drawGroup_79 rfl ?_
      refine gw_aload_n (pc := 81) F 1 d_Painter_drawGroup_81 rfl rfl ?_
      refine cg_Painter_shapes (pc := 82) F tw_68 d_Painter_drawGroup_82 ?_
      refine gw_iload (pc := 85) F 8 d_Painter_drawGroup_85 rfl ?_
      refine gw_iconst (pc := 87) (v := (2 : Int32)) F d_Painter_drawGroup_87 (by decide) ?_
      refine gw_iadd (pc := 88) F d_Painter_drawGroup_88 ?_
      refine gw_cV (pc := 89) (As := [.int (x10 + (2 : Int32))]) (rest := [.int y7]) F (c_Bytes_read (gw_FJ F) (Or.inr rfl) S74 (x10 + (2 : Int32))) cw_Bytes_read cv_Bytes_read tw_340 rfl (by omega) (by decide) (chi_Bytes (Or.inr rfl)) (cE_Bytes (Or.inr rfl)) rfl rfl rfl rfl (Nat.le_of_ble_eq_true rfl) d_Painter_drawGroup_89 (gw_bI (P := fun r U => cOK U ∧ vp_in r 256) ⟨(po_ok_Bytes_read (Or.inr rfl) S74 (x10 + (2 : Int32)) p74), (cb_read (Or.inr rfl) S74 (x10 + (2 : Int32)) p74)⟩ (fun r89 S89 p89 => ?_))
      refine gw_iload (pc := 92) F 2 d_Painter_drawGroup_92 rfl ?_
      refine gw_cS (pc := 94) (As := [.int r89, .int a4]) (rest := [.int y7]) F (c_Painter_scaled (gw_FJ F) S89 r89 a4) cw_Painter_scaled cv_Painter_scaled tw_345 rfl (by omega) (by decide) rfl rfl (Nat.le_of_ble_eq_true rfl) d_Painter_drawGroup_94 (gw_bI (P := fun r U => cOK U ∧ cSb r) ⟨(po_ok_Painter_scaled S89 r89 a4 p89.1), (cb_scaled S89 r89 a4 p89.2 hz)⟩ (fun r94 S94 p94 => ?_))
      refine gw_iadd (pc := 97) F d_Painter_drawGroup_97 ?_
      refine gw_nI (fun v98 e98 => ?_)
      refine gw_istore (pc := 98) (lv' := [(13, .int v98), (12, .int r74), (0, .ref (ad 6)), (4, .int a4), (5, .int a5), (6, .int a6), (7, .int y7), (8, .int y8), (9, .int y9), (10, .int x10), (11, .int x11)]) F d_Painter_drawGroup_98 (by decide) rfl ?_
      refine gw_iload (pc := 100) F 7 d_Painter_drawGroup_100 rfl ?_
      refine gw_aload_n (pc := 102) F 2 d_Painter_drawGroup_102 rfl rfl ?_
      refine cg_Painter_shapes (pc := 103) F tw_68 d_Painter_drawGroup_103 ?_
      refine gw_iload (pc := 106) F 9 d_Painter_drawGroup_106 rfl ?_
      refine gw_iconst (pc := 108) (v := (3 : Int32)) F d_Painter_drawGroup_108 (by decide) ?_
      refine gw_iadd (pc := 109) F d_Painter_drawGroup_109 ?_
      refine gw_cV (pc := 110) (As := [.int (x10 + (3 : Int32))]) (rest := [.int y8]) F (c_Bytes_read (gw_FJ F) (Or.inr rfl) S94 (x10 + (3 : Int32))) cw_Bytes_read cv_Bytes_read tw_340 rfl (by omega) (by decide) (chi_Bytes (Or.inr rfl)) (cE_Bytes (Or.inr rfl)) rfl rfl rfl rfl (Nat.le_of_ble_eq_true rfl) d_Painter_drawGroup_110 (gw_bI (P := fun r U => cOK U ∧ vp_in r 256) ⟨(po_ok_Bytes_read (Or.inr rfl) S94 (x10 + (3 : Int32)) p94.1), (cb_read (Or.inr rfl) S94 (x10 + (3 : Int32)) p94.1)⟩ (fun r110 S110 p110 => ?_))
      refine gw_iload (pc := 113) F 3 d_Painter_drawGroup_113 rfl ?_
      refine gw_cS (pc := 115) (As := [.int r110, .int a4]) (rest := [.int y8]) F (c_Painter_scaled (gw_FJ F) S110 r110 a4) cw_Painter_scaled cv_Painter_scaled tw_345 rfl (by omega) (by decide) rfl rfl (Nat.le_of_ble_eq_true rfl) d_Painter_drawGroup_115 (gw_bI (P := fun r U => cOK U ∧ cSb r) ⟨(po_ok_Painter_scaled S110 r110 a4 p110.1), (cb_scaled S110 r110 a4 p110.2 hz)⟩ (fun r115 S115 p115 => ?_))
      refine gw_iadd (pc := 118) F d_Painter_drawGroup_118 ?_
      refine gw_nI (fun v119 e119 => ?_)
      refine gw_istore (pc := 119) (lv' := [(14, .int v119), (13, .int v98), (12, .int r74), (0, .ref (ad 6)), (4, .int a4), (5, .int a5), (6, .int a6), (7, .int y7), (8, .int y8), (9, .int y9), (10, .int x10), (11, .int x11)]) F d_Painter_drawGroup_119 (by decide) rfl ?_
      refine gw_iload (pc := 121) F 2 d_Painter_drawGroup_121 rfl ?_
      refine gw_ldc (pc := 123) (v := (32768 : Int32)) F tw_383 d_Painter_drawGroup_123 ?_
      refine gw_iand (pc := 125) F d_Painter_drawGroup_125 ?_
      refine gw_if_eqS (pc := 126) (tgt := 133) F d_Painter_drawGroup_126 (by decide) (fun h126 => ?_) (fun h126 => ?_)
      · refine gw_iconst (pc := 133) (v := (0 : Int32)) F d_Painter_drawGroup_133 (by decide) ?_
        refine gw_istore (pc := 134) (lv' := [(15, .int (0 : Int32)), (14, .int v119), (13, .int v98), (12, .int r74), (0, .ref (ad 6)), (4, .int a4), (5, .int a5), (6, .int a6), (7, .int y7), (8, .int y8), (9, .int y9), (10, .int x10), (11, .int x11)]) F d_Painter_drawGroup_134 (by decide) rfl ?_
        refine gw_iload (pc := 136) F 0 d_Painter_drawGroup_136 rfl ?_
        refine gw_if_eqT (pc := 138) (tgt := 158) F d_Painter_drawGroup_138 (by decide) (by decide) ?_
        refine gw_iload (pc := 158) F 6 d_Painter_drawGroup_158 rfl ?_
        refine gw_istore (pc := 160) (lv' := [(16, .int a5), (15, .int (0 : Int32)), (14, .int v119), (13, .int v98), (12, .int r74), (0, .ref (ad 6)), (4, .int a4), (5, .int a5), (6, .int a6), (7, .int y7), (8, .int y8), (9, .int y9), (10, .int x10), (11, .int x11)]) F d_Painter_drawGroup_160 (by decide) rfl ?_
        refine gw_aload_n (pc := 162) F 5 d_Painter_drawGroup_162 rfl rfl ?_
        refine gw_iload (pc := 163) F 4 d_Painter_drawGroup_163 rfl ?_
        refine gw_sipush (pc := 165) (v := (1023 : Int32)) F d_Painter_drawGroup_165 (by decide) ?_
        refine gw_iand (pc := 168) F d_Painter_drawGroup_168 ?_
        refine gw_iload (pc := 169) F 3 d_Painter_drawGroup_169 rfl ?_
        refine gw_iload (pc := 171) F 2 d_Painter_drawGroup_171 rfl ?_
        refine gw_iload (pc := 173) F 6 d_Painter_drawGroup_173 rfl ?_
        refine gw_iload (pc := 175) F 0 d_Painter_drawGroup_175 rfl ?_
        refine gw_iload (pc := 177) F 8 d_Painter_drawGroup_177 rfl ?_
        refine gw_iconst (pc := 179) (v := (1 : Int32)) F d_Painter_drawGroup_179 (by decide) ?_
        refine gw_iadd (pc := 180) F d_Painter_drawGroup_180 ?_
        refine gw_cV (pc := 181) (As := [.int (r74 &&& (1023 : Int32)), .int v98, .int v119, .int a4, .int a5, .int (a6 + (1 : Int32))]) (rest := []) F (hsh S115 (r74 &&& (1023 : Int32)) v98 v119 a4 a5 (a6 + (1 : Int32)) p115.1 (cXb_p e98 h7x p94.2 hK h6 h4) (cXb_p e119 h8x p115.2 hK h6 h4) hz (gw_k1 h6 h4)) cw_Painter_drawShape cv_Painter_drawShape tw_384 rfl (by omega) (by decide) (by decide) cE_Painter rfl rfl rfl rfl (Nat.le_of_ble_eq_true rfl) d_Painter_drawGroup_181 (gw_bV (P := fun _ U => cOK U) (hso S115 (r74 &&& (1023 : Int32)) v98 v119 a4 a5 (a6 + (1 : Int32)) p115.1 (cXb_p e98 h7x p94.2 hK h6 h4) (cXb_p e119 h8x p115.2 hK h6 h4) hz (gw_k1 h6 h4)) (fun _ S181 p181 => ?_))
        refine gw_iload (pc := 184) F 12 d_Painter_drawGroup_184 rfl ?_
        refine gw_iload (pc := 186) F 1 d_Painter_drawGroup_186 rfl ?_
        refine gw_if_eqT (pc := 188) (tgt := 195) F d_Painter_drawGroup_188 (by decide) (by decide) ?_
        refine gw_iconst (pc := 195) (v := (4 : Int32)) F d_Painter_drawGroup_195 (by decide) ?_
        refine gw_iadd (pc := 196) F d_Painter_drawGroup_196 ?_
        refine gw_nI (fun v197 e197 => ?_)
        refine gw_istore (pc := 197) (lv' := [(10, .int v197), (16, .int a5), (15, .int (0 : Int32)), (14, .int v119), (13, .int v98), (12, .int r74), (0, .ref (ad 6)), (4, .int a4), (5, .int a5), (6, .int a6), (7, .int y7), (8, .int y8), (9, .int y9), (11, .int x11)]) F d_Painter_drawGroup_197 (by decide) rfl ?_
        refine gw_iinc (pc := 199) (v := (x11 + (1 : Int32))) (lv' := [(11, .int (x11 + (1 : Int32))), (10, .int v197), (16, .int a5), (15, .int (0 : Int32)), (14, .int v119), (13, .int v98), (12, .int r74), (0, .ref (ad 6)), (4, .int a4), (5, .int a5), (6, .int a6), (7, .int y7), (8, .int y8), (9, .int y9)]) F 13 d_Painter_drawGroup_199 rfl (congrArg (HAdd.hAdd x11) (by decide)) (by decide) rfl ?_
        refine gw_goto (pc := 202) (tgt := 61) F d_Painter_drawGroup_202 (by decide) ?_
        refine gw_lvs (lv' := [(0, .ref (ad 6)), (4, .int a4), (5, .int a5), (6, .int a6), (7, .int y7), (8, .int y8), (9, .int y9), (10, .int v197), (11, .int (x11 + (1 : Int32)))]) [7, 8, 9, 10, 11, 12, 13, 1, 0] rfl ?_
        exact ih S181 v197 (x11 + (1 : Int32)) (gw_stp h65 hf).1 (gw_stp h65 hf).2.1 p181
      · refine gw_iconst (pc := 129) (v := (1 : Int32)) F d_Painter_drawGroup_129 (by decide) ?_
        refine gw_goto (pc := 130) (tgt := 134) F d_Painter_drawGroup_130 (by decide) ?_
        refine gw_istore (pc := 134) (lv' := [(15, .int (1 : Int32)), (14, .int v119), (13, .int v98), (12, .int r74), (0, .ref (ad 6)), (4, .int a4), (5, .int a5), (6, .int a6), (7, .int y7), (8, .int y8), (9, .int y9), (10, .int x10), (11, .int x11)]) F d_Painter_drawGroup_134 (by decide) rfl ?_
        refine gw_iload (pc := 136) F 0 d_Painter_drawGroup_136 rfl ?_
        refine gw_if_eqN (pc := 138) F 158 d_Painter_drawGroup_138 (by decide) (by decide) ?_
        refine gw_aload_n (pc := 141) F 4 d_Painter_drawGroup_141 rfl rfl ?_
        refine cg_Painter_shapes (pc := 142) F tw_68 d_Painter_drawGroup_142 ?_
        refine gw_iload (pc := 145) F 11 d_Painter_drawGroup_145 rfl ?_
        refine gw_iconst (pc := 147) (v := (4 : Int32)) F d_Painter_drawGroup_147 (by decide) ?_
        refine gw_iadd (pc := 148) F d_Painter_drawGroup_148 ?_
        refine gw_cV (pc := 149) (As := [.int (x10 + (4 : Int32))]) (rest := []) F (c_Bytes_read (gw_FJ F) (Or.inr rfl) S115 (x10 + (4 : Int32))) cw_Bytes_read cv_Bytes_read tw_340 rfl (by omega) (by decide) (chi_Bytes (Or.inr rfl)) (cE_Bytes (Or.inr rfl)) rfl rfl rfl rfl (Nat.le_of_ble_eq_true rfl) d_Painter_drawGroup_149 (gw_bI (P := fun r U => cOK U ∧ vp_in r 256) ⟨(po_ok_Bytes_read (Or.inr rfl) S115 (x10 + (4 : Int32)) p115.1), (cb_read (Or.inr rfl) S115 (x10 + (4 : Int32)) p115.1)⟩ (fun r149 S149 p149 => ?_))
        refine gw_bipush (pc := 152) (v := (15 : Int32)) F d_Painter_drawGroup_152 (by decide) ?_
        refine gw_iand (pc := 154) F d_Painter_drawGroup_154 ?_
        refine gw_goto (pc := 155) (tgt := 160) F d_Painter_drawGroup_155 (by decide) ?_
        refine gw_nI (fun v160 e160 => ?_)
        refine gw_istore (pc := 160) (lv' := [(16, .int v160), (15, .int (1 : Int32)), (14, .int v119), (13, .int v98), (12, .int r74), (0, .ref (ad 6)), (4, .int a4), (5, .int a5), (6, .int a6), (7, .int y7), (8, .int y8), (9, .int y9), (10, .int x10), (11, .int x11)]) F d_Painter_drawGroup_160 (by decide) rfl ?_
        refine gw_aload_n (pc := 162) F 5 d_Painter_drawGroup_162 rfl rfl ?_
        refine gw_iload (pc := 163) F 4 d_Painter_drawGroup_163 rfl ?_
        refine gw_sipush (pc := 165) (v := (1023 : Int32)) F d_Painter_drawGroup_165 (by decide) ?_
        refine gw_iand (pc := 168) F d_Painter_drawGroup_168 ?_
        refine gw_iload (pc := 169) F 3 d_Painter_drawGroup_169 rfl ?_
        refine gw_iload (pc := 171) F 2 d_Painter_drawGroup_171 rfl ?_
        refine gw_iload (pc := 173) F 6 d_Painter_drawGroup_173 rfl ?_
        refine gw_iload (pc := 175) F 0 d_Painter_drawGroup_175 rfl ?_
        refine gw_iload (pc := 177) F 8 d_Painter_drawGroup_177 rfl ?_
        refine gw_iconst (pc := 179) (v := (1 : Int32)) F d_Painter_drawGroup_179 (by decide) ?_
        refine gw_iadd (pc := 180) F d_Painter_drawGroup_180 ?_
        refine gw_cV (pc := 181) (As := [.int (r74 &&& (1023 : Int32)), .int v98, .int v119, .int a4, .int v160, .int (a6 + (1 : Int32))]) (rest := []) F (hsh S149 (r74 &&& (1023 : Int32)) v98 v119 a4 v160 (a6 + (1 : Int32)) p149.1 (cXb_p e98 h7x p94.2 hK h6 h4) (cXb_p e119 h8x p115.2 hK h6 h4) hz (gw_k1 h6 h4)) cw_Painter_drawShape cv_Painter_drawShape tw_384 rfl (by omega) (by decide) (by decide) cE_Painter rfl rfl rfl rfl (Nat.le_of_ble_eq_true rfl) d_Painter_drawGroup_181 (gw_bV (P := fun _ U => cOK U) (hso S149 (r74 &&& (1023 : Int32)) v98 v119 a4 v160 (a6 + (1 : Int32)) p149.1 (cXb_p e98 h7x p94.2 hK h6 h4) (cXb_p e119 h8x p115.2 hK h6 h4) hz (gw_k1 h6 h4)) (fun _ S181 p181 => ?_))
        refine gw_iload (pc := 184) F 12 d_Painter_drawGroup_184 rfl ?_
        refine gw_iload (pc := 186) F 1 d_Painter_drawGroup_186 rfl ?_
        refine gw_if_eqN (pc := 188) F 195 d_Painter_drawGroup_188 (by decide) (by decide) ?_
        refine gw_iconst (pc := 191) (v := (5 : Int32)) F d_Painter_drawGroup_191 (by decide) ?_
        refine gw_goto (pc := 192) (tgt := 196) F d_Painter_drawGroup_192 (by decide) ?_
        refine gw_iadd (pc := 196) F d_Painter_drawGroup_196 ?_
        refine gw_nI (fun v197 e197 => ?_)
        refine gw_istore (pc := 197) (lv' := [(10, .int v197), (16, .int v160), (15, .int (1 : Int32)), (14, .int v119), (13, .int v98), (12, .int r74), (0, .ref (ad 6)), (4, .int a4), (5, .int a5), (6, .int a6), (7, .int y7), (8, .int y8), (9, .int y9), (11, .int x11)]) F d_Painter_drawGroup_197 (by decide) rfl ?_
        refine gw_iinc (pc := 199) (v := (x11 + (1 : Int32))) (lv' := [(11, .int (x11 + (1 : Int32))), (10, .int v197), (16, .int v160), (15, .int (1 : Int32)), (14, .int v119), (13, .int v98), (12, .int r74), (0, .ref (ad 6)), (4, .int a4), (5, .int a5), (6, .int a6), (7, .int y7), (8, .int y8), (9, .int y9)]) F 13 d_Painter_drawGroup_199 rfl (congrArg (HAdd.hAdd x11) (by decide)) (by decide) rfl ?_
        refine gw_goto (pc := 202) (tgt := 61) F d_Painter_drawGroup_202 (by decide) ?_
        refine gw_lvs (lv' := [(0, .ref (ad 6)), (4, .int a4), (5, .int a5), (6, .int a6), (7, .int y7), (8, .int y8), (9, .int y9), (10, .int v197), (11, .int (x11 + (1 : Int32)))]) [7, 8, 9, 10, 11, 12, 13, 1, 0] rfl ?_
        exact ih S181 v197 (x11 + (1 : Int32)) (gw_stp h65 hf).1 (gw_stp h65 hf).2.1 p181
noncomputable def f_Painter_drawGroup (sh : gw_S → Int32 → Int32 → Int32 → Int32 → Int32 → Int32 → Unit × gw_S)  (S : gw_S) (a1 : Int32) (a2 : Int32) (a3 : Int32) (a4 : Int32) (a5 : Int32) (a6 : Int32) : Unit × gw_S := (gw_b (f_Bytes_read 7 S (a1 + (1 : Int32))) fun r8 S8 => gw_b (f_Painter_scaled S8 r8 a4) fun r13 S13 => gw_n (a2 - r13) fun v17 => gw_b (f_Bytes_read 7 S13 (a1 + (2 : Int32))) fun r27 S27 => gw_b (f_Painter_scaled S27 r27 a4) fun r32 S32 => gw_n (a3 - r32) fun v36 => gw_b (f_Bytes_read 7 S32 (a1 + (3 : Int32))) fun r45 S45 => gw_n (r45 &&& (15 : Int32)) fun v51 => gw_n (a1 + (4 : Int32)) fun v56 => (fl_Painter_drawGroup_61 sh a4 a5 a6 v17 v36 v51 (gw_fu ((v51 : Int32).toInt - ((0 : Int32) : Int32).toInt)) S45 v56 (0 : Int32)))
set_option maxHeartbeats 4000000 in
set_option maxRecDepth 100000 in
theorem c_Painter_drawGroup (hJ : gw_J 46 ad) {K dS : Nat} {sh : gw_S → Int32 → Int32 → Int32 → Int32 → Int32 → Int32 → Unit × gw_S} (hK : K ≤ 5) (hdS : 4 ≤ dS) (hsh : ∀ (S : gw_S) (b1 b2 b3 b4 b5 b6 : Int32), cOK S → cXb b6 b2 → cXb b6 b3 → cSh b4 → b6.toInt + ((K - 1 : Nat) : Int) = 5 → gw_M l y_Painter_drawShape prog_5_method_3_code 8 none gTs (gw_rm dS) D gCl (gTys cI cB cC cZ) 46 ad (cE ad cI cB cC) gw_rV [.ref (ad 6), .int b1, .int b2, .int b3, .int b4, .int b5, .int b6] S (sh S b1 b2 b3 b4 b5 b6)) (hso : ∀ (S : gw_S) (b1 b2 b3 b4 b5 b6 : Int32), cOK S → cXb b6 b2 → cXb b6 b3 → cSh b4 → b6.toInt + ((K - 1 : Nat) : Int) = 5 → cOK (sh S b1 b2 b3 b4 b5 b6).2)  (S : gw_S) (a1 : Int32) (a2 : Int32) (a3 : Int32) (a4 : Int32) (a5 : Int32) (a6 : Int32) (hf_ok : cOK S) (hx : cXb a6 a2) (hy : cXb a6 a3) (hz : cSh a4) (h6 : a6.toInt + (K : Int) = 5) (h4 : a6.toInt ≤ 4) : gw_M l y_Painter_drawGroup prog_5_method_4_code 17 none gTs (gw_rm (dS + 1)) D gCl (gTys cI cB cC cZ) 46 ad (cE ad cI cB cC) gw_rV [.ref (ad 6), .int a1, .int a2, .int a3, .int a4, .int a5, .int a6] S (f_Painter_drawGroup sh S a1 a2 a3 a4 a5 a6) := by
  refine gw_start gTs_ok (plainFor_of_name (by decide)) hJ (Nat.le_of_ble_eq_true rfl) (fun X A F => ?_)
  refine gw_lve (lv' := [(0, .ref (ad 6)), (1, .int a1), (2, .int a2), (3, .int a3), (4, .int a4), (5, .int a5), (6, .int a6)]) rfl ?_
  unfold f_Painter_drawGroup
  refine gw_iload_n (pc := 0) F 2 d_Painter_drawGroup_0 rfl rfl ?_
  refine gw_aload_n (pc := 1) F 0 d_Painter_drawGroup_1 rfl rfl ?_
  refine cg_Painter_shapes (pc := 2) F tw_68 d_Painter_drawGroup_2 ?_
  refine gw_iload_n (pc := 5) F 1 d_Painter_drawGroup_5 rfl rfl ?_
  refine gw_iconst (pc := 6) (v := (1 : Int32)) F d_Painter_drawGroup_6 (by decide) ?_
  refine gw_iadd (pc := 7) F d_Painter_drawGroup_7 ?_
  refine gw_cV (pc := 8) (As := [.int (a1 + (1 : Int32))]) (rest := [.int a2]) F (c_Bytes_read (gw_FJ F) (Or.inr rfl) S (a1 + (1 : Int32))) cw_Bytes_read cv_Bytes_read tw_340 rfl (by omega) (by decide) (chi_Bytes (Or.inr rfl)) (cE_Bytes (Or.inr rfl)) rfl rfl rfl rfl (Nat.le_of_ble_eq_true rfl) d_Painter_drawGroup_8 (gw_bI (P := fun r U => cOK U ∧ vp_in r 256) ⟨(po_ok_Bytes_read (Or.inr rfl) S (a1 + (1 : Int32)) hf_ok), (cb_read (Or.inr rfl) S (a1 + (1 : Int32)) hf_ok)⟩ (fun r8 S8 p8 => ?_))
  refine gw_iload (pc := 11) F 4 d_Painter_drawGroup_11 rfl ?_
  refine gw_cS (pc := 13) (As := [.int r8, .int a4]) (rest := [.int a2]) F (c_Painter_scaled (gw_FJ F) S8 r8 a4) cw_Painter_scaled cv_Painter_scaled tw_345 rfl (by omega) (by decide) rfl rfl (Nat.le_of_ble_eq_true rfl) d_Painter_drawGroup_13 (gw_bI (P := fun r U => cOK U ∧ cSb r) ⟨(po_ok_Painter_scaled S8 r8 a4 p8.1), (cb_scaled S8 r8 a4 p8.2 hz)⟩ (fun r13 S13 p13 => ?_))
  refine gw_isub (pc := 16) F d_Painter_drawGroup_16 ?_
  refine gw_nI (fun v17 e17 => ?_)
  refine gw_istore (pc := 17) (lv' := [(7, .int v17), (0, .ref (ad 6)), (1, .int a1), (2, .int a2), (3, .int a3), (4, .int a4), (5, .int a5), (6, .int a6)]) F d_Painter_drawGroup_17 (by decide) rfl ?_
  refine gw_iload_n (pc := 19) F 4 d_Painter_drawGroup_19 rfl rfl ?_
  refine gw_aload_n (pc := 20) F 1 d_Painter_drawGroup_20 rfl rfl ?_
  refine cg_Painter_shapes (pc := 21) F tw_68 d_Painter_drawGroup_21 ?_
  refine gw_iload_n (pc := 24) F 2 d_Painter_drawGroup_24 rfl rfl ?_
  refine gw_iconst (pc := 25) (v := (2 : Int32)) F d_Painter_drawGroup_25 (by decide) ?_
  refine gw_iadd (pc := 26) F d_Painter_drawGroup_26 ?_
  refine gw_cV (pc := 27) (As := [.int (a1 + (2 : Int32))]) (rest := [.int a3]) F (c_Bytes_read (gw_FJ F) (Or.inr rfl) S13 (a1 + (2 : Int32))) cw_Bytes_read cv_Bytes_read tw_340 rfl (by omega) (by decide) (chi_Bytes (Or.inr rfl)) (cE_Bytes (Or.inr rfl)) rfl rfl rfl rfl (Nat.le_of_ble_eq_true rfl) d_Painter_drawGroup_27 (gw_bI (P := fun r U => cOK U ∧ vp_in r 256) ⟨(po_ok_Bytes_read (Or.inr rfl) S13 (a1 + (2 : Int32)) p13.1), (cb_read (Or.inr rfl) S13 (a1 + (2 : Int32)) p13.1)⟩ (fun r27 S27 p27 => ?_))
  refine gw_iload (pc := 30) F 5 d_Painter_drawGroup_30 rfl ?_
  refine gw_cS (pc := 32) (As := [.int r27, .int a4]) (rest := [.int a3]) F (c_Painter_scaled (gw_FJ F) S27 r27 a4) cw_Painter_scaled cv_Painter_scaled tw_345 rfl (by omega) (by decide) rfl rfl (Nat.le_of_ble_eq_true rfl) d_Painter_drawGroup_32 (gw_bI (P := fun r U => cOK U ∧ cSb r) ⟨(po_ok_Painter_scaled S27 r27 a4 p27.1), (cb_scaled S27 r27 a4 p27.2 hz)⟩ (fun r32 S32 p32 => ?_))
  refine gw_isub (pc := 35) F d_Painter_drawGroup_35 ?_
  refine gw_nI (fun v36 e36 => ?_)
  refine gw_istore (pc := 36) (lv' := [(8, .int v36), (7, .int v17), (0, .ref (ad 6)), (1, .int a1), (2, .int a2), (3, .int a3), (4, .int a4), (5, .int a5), (6, .int a6)]) F d_Painter_drawGroup_36 (by decide) rfl ?_
  refine gw_aload_n (pc := 38) F 2 d_Painter_drawGroup_38 rfl rfl ?_
  refine cg_Painter_shapes (pc := 39) F tw_68 d_Painter_drawGroup_39 ?_
  refine gw_iload_n (pc := 42) F 3 d_Painter_drawGroup_42 rfl rfl ?_
  refine gw_iconst (pc := 43) (v := (3 : Int32)) F d_Painter_drawGroup_43 (by decide) ?_
  refine gw_iadd (pc := 44) F d_Painter_drawGroup_44 ?_
  refine gw_cV (pc := 45) (As := [.int (a1 + (3 : Int32))]) (rest := []) F (c_Bytes_read (gw_FJ F) (Or.inr rfl) S32 (a1 + (3 : Int32))) cw_Bytes_read cv_Bytes_read tw_340 rfl (by omega) (by decide) (chi_Bytes (Or.inr rfl)) (cE_Bytes (Or.inr rfl)) rfl rfl rfl rfl (Nat.le_of_ble_eq_true rfl) d_Painter_drawGroup_45 (gw_bI (P := fun r U => cOK U ∧ vp_in r 256) ⟨(po_ok_Bytes_read (Or.inr rfl) S32 (a1 + (3 : Int32)) p32.1), (cb_read (Or.inr rfl) S32 (a1 + (3 : Int32)) p32.1)⟩ (fun r45 S45 p45 => ?_))
  refine gw_bipush (pc := 48) (v := (15 : Int32)) F d_Painter_drawGroup_48 (by decide) ?_
  refine gw_iand (pc := 50) F d_Painter_drawGroup_50 ?_
  refine gw_nI (fun v51 e51 => ?_)
  refine gw_istore (pc := 51) (lv' := [(9, .int v51), (8, .int v36), (7, .int v17), (0, .ref (ad 6)), (1, .int a1), (2, .int a2), (3, .int a3), (4, .int a4), (5, .int a5), (6, .int a6)]) F d_Painter_drawGroup_51 (by decide) rfl ?_
  refine gw_iload_n (pc := 53) F 4 d_Painter_drawGroup_53 rfl rfl ?_
  refine gw_iconst (pc := 54) (v := (4 : Int32)) F d_Painter_drawGroup_54 (by decide) ?_
  refine gw_iadd (pc := 55) F d_Painter_drawGroup_55 ?_
  refine gw_nI (fun v56 e56 => ?_)
  refine gw_istore (pc := 56) (lv' := [(10, .int v56), (9, .int v51), (8, .int v36), (7, .int v17), (0, .ref (ad 6)), (1, .int a1), (2, .int a2), (3, .int a3), (4, .int a4), (5, .int a5), (6, .int a6)]) F d_Painter_drawGroup_56 (by decide) rfl ?_
  refine gw_iconst (pc := 58) (v := (0 : Int32)) F d_Painter_drawGroup_58 (by decide) ?_
  refine gw_istore (pc := 59) (lv' := [(11, .int (0 : Int32)), (10, .int v56), (9, .int v51), (8, .int v36), (7, .int v17), (0, .ref (ad 6)), (1, .int a1), (2, .int a2), (3, .int a3), (4, .int a4), (5, .int a5), (6, .int a6)]) F d_Painter_drawGroup_59 (by decide) rfl ?_
  refine gw_lvs (lv' := [(0, .ref (ad 6)), (4, .int a4), (5, .int a5), (6, .int a6), (7, .int v17), (8, .int v36), (9, .int v51), (10, .int v56), (11, .int (0 : Int32))]) [5, 9, 10, 11, 4, 3, 2, 1, 0] rfl ?_
  exact l_Painter_drawGroup_61 hK hdS hsh hso F a4 a5 a6 v17 v36 v51 (cXb_g e17 hx p13.2 hK h6) (cXb_g e36 hy p32.2 hK h6) hz h6 h4 (gw_fu ((v51 : Int32).toInt - ((0 : Int32) : Int32).toInt)) S45 v56 (0 : Int32) (gw_fu_pos _) (gw_fu_lt _) p45.1
set_option maxHeartbeats 4000000 in
set_option maxRecDepth 100000 in
theorem pl_ok_Painter_drawGroup_61 {K : Nat} {sh : gw_S → Int32 → Int32 → Int32 → Int32 → Int32 → Int32 → Unit × gw_S} (hK : K ≤ 5) (hso : ∀ (S : gw_S) (b1 b2 b3 b4 b5 b6 : Int32), cOK S → cXb b6 b2 → cXb b6 b3 → cSh b4 → b6.toInt + ((K - 1 : Nat) : Int) = 5 → cOK (sh S b1 b2 b3 b4 b5 b6).2) (a4 : Int32) (a5 : Int32) (a6 : Int32) (y7 : Int32) (y8 : Int32) (y9 : Int32) (h7x : cGb a6 y7) (h8x : cGb a6 y8) (hz : cSh a4) (h6 : a6.toInt + (K : Int) = 5) (h4 : a6.toInt ≤ 4) : ∀ (n : Nat) (S : gw_S) (x10 x11 : Int32), 0 < n → (y9 : Int32).toInt - x11.toInt < (n : Int) → cOK S → cOK (fl_Painter_drawGroup_61 sh a4 a5 a6 y7 y8 y9 n S x10 x11).2 := by
  intro n
  induction n with
  | zero => intro S x10 x11 hn hf hf_ok; exact absurd hn (Nat.lt_irrefl 0)
  | succ n ih =>
    intro S x10 x11 hn hf hf_ok
    refine po_if (Φ := fun p : Unit × gw_S => cOK p.2) (fun h65 => ?_) (fun h65 => ?_)
    · exact hf_ok
    · refine po_b (Φ := fun p : Unit × gw_S => cOK p.2) (P := fun r U => cOK U) (po_ok_Bytes_readPair (Or.inr rfl) S x10 hf_ok) (fun r74 S74 p74 => ?_)
      refine po_b (Φ := fun p : Unit × gw_S => cOK p.2) (P := fun r U => cOK U ∧ vp_in r 256) ⟨(po_ok_Bytes_read (Or.inr rfl) S74 (x10 + (2 : Int32)) p74), (cb_read (Or.inr rfl) S74 (x10 + (2 : Int32)) p74)⟩ (fun r89 S89 p89 => ?_)
      refine po_b (Φ := fun p : Unit × gw_S => cOK p.2) (P := fun r U => cOK U ∧ cSb r) ⟨(po_ok_Painter_scaled S89 r89 a4 p89.1), (cb_scaled S89 r89 a4 p89.2 hz)⟩ (fun r94 S94 p94 => ?_)
      refine po_n (Φ := fun p : Unit × gw_S => cOK p.2) (fun v98 e98 => ?_)
      refine po_b (Φ := fun p : Unit × gw_S => cOK p.2) (P := fun r U => cOK U ∧ vp_in r 256) ⟨(po_ok_Bytes_read (Or.inr rfl) S94 (x10 + (3 : Int32)) p94.1), (cb_read (Or.inr rfl) S94 (x10 + (3 : Int32)) p94.1)⟩ (fun r110 S110 p110 => ?_)
      refine po_b (Φ := fun p : Unit × gw_S => cOK p.2) (P := fun r U => cOK U ∧ cSb r) ⟨(po_ok_Painter_scaled S110 r110 a4 p110.1), (cb_scaled S110 r110 a4 p110.2 hz)⟩ (fun r115 S115 p115 => ?_)
      refine po_n (Φ := fun p : Unit × gw_S => cOK p.2) (fun v119 e119 => ?_)
      refine po_if (Φ := fun p : Unit × gw_S => cOK p.2) (fun h126 => ?_) (fun h126 => ?_)
      · refine po_b (Φ := fun p : Unit × gw_S => cOK p.2) (P := fun _ U => cOK U) (hso S115 (r74 &&& (1023 : Int32)) v98 v119 a4 a5 (a6 + (1 : Int32)) p115.1 (cXb_p e98 h7x p94.2 hK h6 h4) (cXb_p e119 h8x p115.2 hK h6 h4) hz (gw_k1 h6 h4)) (fun _ S181 p181 => ?_)
        refine po_n (Φ := fun p : Unit × gw_S => cOK p.2) (fun v197 e197 => ?_)
        exact ih S181 v197 (x11 + (1 : Int32)) (gw_stp h65 hf).1 (gw_stp h65 hf).2.1 p181
      · refine po_b (Φ := fun p : Unit × gw_S => cOK p.2) (P := fun r U => cOK U ∧ vp_in r 256) ⟨(po_ok_Bytes_read (Or.inr rfl) S115 (x10 + (4 : Int32)) p115.1), (cb_read (Or.inr rfl) S115 (x10 + (4 : Int32)) p115.1)⟩ (fun r149 S149 p149 => ?_)
        refine po_n (Φ := fun p : Unit × gw_S => cOK p.2) (fun v160 e160 => ?_)
        refine po_b (Φ := fun p : Unit × gw_S => cOK p.2) (P := fun _ U => cOK U) (hso S149 (r74 &&& (1023 : Int32)) v98 v119 a4 v160 (a6 + (1 : Int32)) p149.1 (cXb_p e98 h7x p94.2 hK h6 h4) (cXb_p e119 h8x p115.2 hK h6 h4) hz (gw_k1 h6 h4)) (fun _ S181 p181 => ?_)
        refine po_n (Φ := fun p : Unit × gw_S => cOK p.2) (fun v197 e197 => ?_)
        exact ih S181 v197 (x11 + (1 : Int32)) (gw_stp h65 hf).1 (gw_stp h65 hf).2.1 p181
set_option maxHeartbeats 4000000 in
set_option maxRecDepth 100000 in
theorem po_ok_Painter_drawGroup {K : Nat} {sh : gw_S → Int32 → Int32 → Int32 → Int32 → Int32 → Int32 → Unit × gw_S} (hK : K ≤ 5) (hso : ∀ (S : gw_S) (b1 b2 b3 b4 b5 b6 : Int32), cOK S → cXb b6 b2 → cXb b6 b3 → cSh b4 → b6.toInt + ((K - 1 : Nat) : Int) = 5 → cOK (sh S b1 b2 b3 b4 b5 b6).2)  (S : gw_S) (a1 : Int32) (a2 : Int32) (a3 : Int32) (a4 : Int32) (a5 : Int32) (a6 : Int32) (hf_ok : cOK S) (hx : cXb a6 a2) (hy : cXb a6 a3) (hz : cSh a4) (h6 : a6.toInt + (K : Int) = 5) (h4 : a6.toInt ≤ 4) : cOK (f_Painter_drawGroup sh S a1 a2 a3 a4 a5 a6).2 := by
  unfold f_Painter_drawGroup
  refine po_b (Φ := fun p : Unit × gw_S => cOK p.2) (P := fun r U => cOK U ∧ vp_in r 256) ⟨(po_ok_Bytes_read (Or.inr rfl) S (a1 + (1 : Int32)) hf_ok), (cb_read (Or.inr rfl) S (a1 + (1 : Int32)) hf_ok)⟩ (fun r8 S8 p8 => ?_)
  refine po_b (Φ := fun p : Unit × gw_S => cOK p.2) (P := fun r U => cOK U ∧ cSb r) ⟨(po_ok_Painter_scaled S8 r8 a4 p8.1), (cb_scaled S8 r8 a4 p8.2 hz)⟩ (fun r13 S13 p13 => ?_)
  refine po_n (Φ := fun p : Unit × gw_S => cOK p.2) (fun v17 e17 => ?_)
  refine po_b (Φ := fun p : Unit × gw_S => cOK p.2) (P := fun r U => cOK U ∧ vp_in r 256) ⟨(po_ok_Bytes_read (Or.inr rfl) S13 (a1 + (2 : Int32)) p13.1), (cb_read (Or.inr rfl) S13 (a1 + (2 : Int32)) p13.1)⟩ (fun r27 S27 p27 => ?_)
  refine po_b (Φ := fun p : Unit × gw_S => cOK p.2) (P := fun r U => cOK U ∧ cSb r) ⟨(po_ok_Painter_scaled S27 r27 a4 p27.1), (cb_scaled S27 r27 a4 p27.2 hz)⟩ (fun r32 S32 p32 => ?_)
  refine po_n (Φ := fun p : Unit × gw_S => cOK p.2) (fun v36 e36 => ?_)
  refine po_b (Φ := fun p : Unit × gw_S => cOK p.2) (P := fun r U => cOK U ∧ vp_in r 256) ⟨(po_ok_Bytes_read (Or.inr rfl) S32 (a1 + (3 : Int32)) p32.1), (cb_read (Or.inr rfl) S32 (a1 + (3 : Int32)) p32.1)⟩ (fun r45 S45 p45 => ?_)
  refine po_n (Φ := fun p : Unit × gw_S => cOK p.2) (fun v51 e51 => ?_)
  refine po_n (Φ := fun p : Unit × gw_S => cOK p.2) (fun v56 e56 => ?_)
  exact pl_ok_Painter_drawGroup_61 hK hso a4 a5 a6 v17 v36 v51 (cXb_g e17 hx p13.2 hK h6) (cXb_g e36 hy p32.2 hK h6) hz h6 h4 (gw_fu ((v51 : Int32).toInt - ((0 : Int32) : Int32).toInt)) S45 v56 (0 : Int32) (gw_fu_pos _) (gw_fu_lt _) p45.1
noncomputable def f_Painter_drawShape (gr : gw_S → Int32 → Int32 → Int32 → Int32 → Int32 → Int32 → Unit × gw_S)  (S : gw_S) (a1 : Int32) (a2 : Int32) (a3 : Int32) (a4 : Int32) (a5 : Int32) (a6 : Int32) : Unit × gw_S := (if (S 6 5) < (200 : Int32) then (gw_n (gw_u S 6 5 ((S 6 5) + (1 : Int32))) fun S18 => gw_n (gw_u S18 6 6 ((S18 6 6) + (1 : Int32))) fun S28 => gw_b (f_Bytes_read 7 S28 a1) fun r36 S36 => if r36 < (192 : Int32) then (if r36 = (2 : Int32) then (if (4 : Int32) < a6 then (((), S36)) else (gw_b (gr S36 a1 a2 a3 a4 a5 a6) fun _ S116 => ((), S116))) else (((), S36))) else (gw_b (f_Painter_placePairs S36 a1 a2 a3 a4) fun _ S55 => gw_b (f_Bytes_read 7 S55 (a1 + (3 : Int32))) fun r66 S66 => if a5 = (-1 : Int32) then (gw_b (f_Painter_drawPolygon S66 (r66 &&& (15 : Int32)) (r36 &&& (15 : Int32))) fun _ S88 => ((), S88)) else (gw_b (f_Painter_drawPolygon S66 (r66 &&& (15 : Int32)) a5) fun _ S88 => ((), S88)))) else (((), S)))
set_option maxHeartbeats 4000000 in
set_option maxRecDepth 100000 in
theorem c_Painter_drawShape (hJ : gw_J 46 ad) {K dG : Nat} {gr : gw_S → Int32 → Int32 → Int32 → Int32 → Int32 → Int32 → Unit × gw_S} (hK : K ≤ 5) (hdG : 4 ≤ dG) (hgr : ∀ (S : gw_S) (b1 b2 b3 b4 b5 b6 : Int32), cOK S → cXb b6 b2 → cXb b6 b3 → cSh b4 → b6.toInt + (K : Int) = 5 → b6.toInt ≤ 4 → gw_M l y_Painter_drawGroup prog_5_method_4_code 17 none gTs (gw_rm dG) D gCl (gTys cI cB cC cZ) 46 ad (cE ad cI cB cC) gw_rV [.ref (ad 6), .int b1, .int b2, .int b3, .int b4, .int b5, .int b6] S (gr S b1 b2 b3 b4 b5 b6)) (hgo : ∀ (S : gw_S) (b1 b2 b3 b4 b5 b6 : Int32), cOK S → cXb b6 b2 → cXb b6 b3 → cSh b4 → b6.toInt + (K : Int) = 5 → b6.toInt ≤ 4 → cOK (gr S b1 b2 b3 b4 b5 b6).2)  (S : gw_S) (a1 : Int32) (a2 : Int32) (a3 : Int32) (a4 : Int32) (a5 : Int32) (a6 : Int32) (hf_ok : cOK S) (hx : cXb a6 a2) (hy : cXb a6 a3) (hz : cSh a4) (h6 : a6.toInt + (K : Int) = 5) : gw_M l y_Painter_drawShape prog_5_method_3_code 8 none gTs (gw_rm (dG + 1)) D gCl (gTys cI cB cC cZ) 46 ad (cE ad cI cB cC) gw_rV [.ref (ad 6), .int a1, .int a2, .int a3, .int a4, .int a5, .int a6] S (f_Painter_drawShape gr S a1 a2 a3 a4 a5 a6) := by
  refine gw_start gTs_ok (plainFor_of_name (by decide)) hJ (Nat.le_of_ble_eq_true rfl) (fun X A F => ?_)
  refine gw_lve (lv' := [(0, .ref (ad 6)), (1, .int a1), (2, .int a2), (3, .int a3), (4, .int a4), (5, .int a5), (6, .int a6)]) rfl ?_
  unfold f_Painter_drawShape
  refine gw_aload_n (pc := 0) F 0 d_Painter_drawShape_0 rfl rfl ?_
  refine cg_Painter_begunInDraw (pc := 1) F tw_76 d_Painter_drawShape_1 ?_
  refine gw_sipush (pc := 4) (v := (200 : Int32)) F d_Painter_drawShape_4 (by decide) ?_
  refine gw_icmp_ltS (pc := 7) (tgt := 11) F d_Painter_drawShape_7 (by decide) (fun h7 => ?_) (fun h7 => ?_)
  · refine gw_aload_n (pc := 11) F 0 d_Painter_drawShape_11 rfl rfl ?_
    refine gw_dup (pc := 12) F d_Painter_drawShape_12 rfl ?_
    refine cg_Painter_begunInDraw (pc := 13) F tw_76 d_Painter_drawShape_13 ?_
    refine gw_iconst (pc := 16) (v := (1 : Int32)) F d_Painter_drawShape_16 (by decide) ?_
    refine gw_iadd (pc := 17) F d_Painter_drawShape_17 ?_
    refine cp_Painter_begunInDraw (pc := 18) F tw_76 d_Painter_drawShape_18 ?_
    refine gw_nS (fun S18 E18 => ?_)
    refine gw_aload_n (pc := 21) F 0 d_Painter_drawShape_21 rfl rfl ?_
    refine gw_dup (pc := 22) F d_Painter_drawShape_22 rfl ?_
    refine cg_Painter_begunInFrame (pc := 23) F tw_78 d_Painter_drawShape_23 ?_
    refine gw_iconst (pc := 26) (v := (1 : Int32)) F d_Painter_drawShape_26 (by decide) ?_
    refine gw_iadd (pc := 27) F d_Painter_drawShape_27 ?_
    refine cp_Painter_begunInFrame (pc := 28) F tw_78 d_Painter_drawShape_28 ?_
    refine gw_nS (fun S28 E28 => ?_)
    refine gw_aload_n (pc := 31) F 0 d_Painter_drawShape_31 rfl rfl ?_
    refine cg_Painter_shapes (pc := 32) F tw_68 d_Painter_drawShape_32 ?_
    refine gw_iload_n (pc := 35) F 1 d_Painter_drawShape_35 rfl rfl ?_
    refine gw_cV (pc := 36) (As := [.int a1]) (rest := []) F (c_Bytes_read (gw_FJ F) (Or.inr rfl) S28 a1) cw_Bytes_read cv_Bytes_read tw_340 rfl (by omega) (by decide) (chi_Bytes (Or.inr rfl)) (cE_Bytes (Or.inr rfl)) rfl rfl rfl rfl (Nat.le_of_ble_eq_true rfl) d_Painter_drawShape_36 (gw_bI (P := fun r U => cOK U ∧ vp_in r 256) ⟨(po_ok_Bytes_read (Or.inr rfl) S28 a1 (cOK_o E28 (cOK_o E18 hf_ok (by omega)) (by omega))), (cb_read (Or.inr rfl) S28 a1 (cOK_o E28 (cOK_o E18 hf_ok (by omega)) (by omega)))⟩ (fun r36 S36 p36 => ?_))
    refine gw_istore (pc := 39) (lv' := [(7, .int r36), (0, .ref (ad 6)), (1, .int a1), (2, .int a2), (3, .int a3), (4, .int a4), (5, .int a5), (6, .int a6)]) F d_Painter_drawShape_39 (by decide) rfl ?_
    refine gw_iload (pc := 41) F 0 d_Painter_drawShape_41 rfl ?_
    refine gw_sipush (pc := 43) (v := (192 : Int32)) F d_Painter_drawShape_43 (by decide) ?_
    refine gw_icmp_ltS (pc := 46) (tgt := 94) F d_Painter_drawShape_46 (by decide) (fun h46 => ?_) (fun h46 => ?_)
    · refine gw_iload (pc := 94) F 0 d_Painter_drawShape_94 rfl ?_
      refine gw_iconst (pc := 96) (v := (2 : Int32)) F d_Painter_drawShape_96 (by decide) ?_
      refine gw_icmp_neS (pc := 97) (tgt := 119) F d_Painter_drawShape_97 (by decide) (fun h97 => ?_) (fun h97 => ?_)
      · exact gw_vret (pc := 119) F d_Painter_drawShape_119
      · refine gw_iload (pc := 100) F 7 d_Painter_drawShape_100 rfl ?_
        refine gw_iconst (pc := 102) (v := (4 : Int32)) F d_Painter_drawShape_102 (by decide) ?_
        refine gw_icmp_gtS (pc := 103) (tgt := 119) F d_Painter_drawShape_103 (by decide) (fun h103 => ?_) (fun h103 => ?_)
        · exact gw_vret (pc := 119) F d_Painter_drawShape_119
        · refine gw_aload_n (pc := 106) F 1 d_Painter_drawShape_106 rfl rfl ?_
          refine gw_iload_n (pc := 107) F 2 d_Painter_drawShape_107 rfl rfl ?_
          refine gw_iload_n (pc := 108) F 3 d_Painter_drawShape_108 rfl rfl ?_
          refine gw_iload_n (pc := 109) F 4 d_Painter_drawShape_109 rfl rfl ?_
          refine gw_iload (pc := 110) F 5 d_Painter_drawShape_110 rfl ?_
          refine gw_iload (pc := 112) F 6 d_Painter_drawShape_112 rfl ?_
          refine gw_iload (pc := 114) F 7 d_Painter_drawShape_114 rfl ?_
          refine gw_cV (pc := 116) (As := [.int a1, .int a2, .int a3, .int a4, .int a5, .int a6]) (rest := []) F (hgr S36 a1 a2 a3 a4 a5 a6 p36.1 hx hy hz h6 (gw_le4 h103)) cw_Painter_drawGroup cv_Painter_drawGroup tw_378 rfl (by omega) (by decide) (by decide) cE_Painter rfl rfl rfl rfl (Nat.le_of_ble_eq_true rfl) d_Painter_drawShape_116 (gw_bV (P := fun _ U => cOK U) (hgo S36 a1 a2 a3 a4 a5 a6 p36.1 hx hy hz h6 (gw_le4 h103)) (fun _ S116 p116 => ?_))
          exact gw_vret (pc := 119) F d_Painter_drawShape_119
    · refine gw_aload_n (pc := 49) F 1 d_Painter_drawShape_49 rfl rfl ?_
      refine gw_iload_n (pc := 50) F 2 d_Painter_drawShape_50 rfl rfl ?_
      refine gw_iload_n (pc := 51) F 3 d_Painter_drawShape_51 rfl rfl ?_
      refine gw_iload_n (pc := 52) F 4 d_Painter_drawShape_52 rfl rfl ?_
      refine gw_iload (pc := 53) F 5 d_Painter_drawShape_53 rfl ?_
      refine gw_cV (pc := 55) (As := [.int a1, .int a2, .int a3, .int a4]) (rest := []) F (c_Painter_placePairs (gw_FJ F) S36 a1 a2 a3 a4 p36.1 (cXb_z hx h6) (cXb_z hy h6) hz) cw_Painter_placePairs cv_Painter_placePairs tw_341 rfl (by omega) (by decide) (by decide) cE_Painter rfl rfl rfl rfl (Nat.le_of_ble_eq_true rfl) d_Painter_drawShape_55 (gw_bV (P := fun _ U => cOK U) (po_ok_Painter_placePairs S36 a1 a2 a3 a4 p36.1 (cXb_z hx h6) (cXb_z hy h6) hz) (fun _ S55 p55 => ?_))
      refine gw_aload_n (pc := 58) F 1 d_Painter_drawShape_58 rfl rfl ?_
      refine gw_aload_n (pc := 59) F 1 d_Painter_drawShape_59 rfl rfl ?_
      refine cg_Painter_shapes (pc := 60) F tw_68 d_Painter_drawShape_60 ?_
      refine gw_iload_n (pc := 63) F 2 d_Painter_drawShape_63 rfl rfl ?_
      refine gw_iconst (pc := 64) (v := (3 : Int32)) F d_Painter_drawShape_64 (by decide) ?_
      refine gw_iadd (pc := 65) F d_Painter_drawShape_65 ?_
      refine gw_cV (pc := 66) (As := [.int (a1 + (3 : Int32))]) (rest := [.ref (ad 6)]) F (c_Bytes_read (gw_FJ F) (Or.inr rfl) S55 (a1 + (3 : Int32))) cw_Bytes_read cv_Bytes_read tw_340 rfl (by omega) (by decide) (chi_Bytes (Or.inr rfl)) (cE_Bytes (Or.inr rfl)) rfl rfl rfl rfl (Nat.le_of_ble_eq_true rfl) d_Painter_drawShape_66 (gw_bI (P := fun r U => cOK U ∧ vp_in r 256) ⟨(po_ok_Bytes_read (Or.inr rfl) S55 (a1 + (3 : Int32)) p55), (cb_read (Or.inr rfl) S55 (a1 + (3 : Int32)) p55)⟩ (fun r66 S66 p66 => ?_))
      refine gw_bipush (pc := 69) (v := (15 : Int32)) F d_Painter_drawShape_69 (by decide) ?_
      refine gw_iand (pc := 71) F d_Painter_drawShape_71 ?_
      refine gw_iload (pc := 72) F 6 d_Painter_drawShape_72 rfl ?_
      refine gw_iconst (pc := 74) (v := (-1 : Int32)) F d_Painter_drawShape_74 (by decide) ?_
      refine gw_icmp_neS (pc := 75) (tgt := 86) F d_Painter_drawShape_75 (by decide) (fun h75 => ?_) (fun h75 => ?_)
      · refine gw_iload (pc := 86) F 6 d_Painter_drawShape_86 rfl ?_
        refine gw_cV (pc := 88) (As := [.int (r66 &&& (15 : Int32)), .int a5]) (rest := []) F (c_Painter_drawPolygon (gw_FJ F) S66 (r66 &&& (15 : Int32)) a5 p66.1 (gw_and15 _)) cw_Painter_drawPolygon cv_Painter_drawPolygon tw_351 rfl (by omega) (by decide) (by decide) cE_Painter rfl rfl rfl rfl (Nat.le_of_ble_eq_true rfl) d_Painter_drawShape_88 (gw_bV (P := fun _ U => cOK U) (po_ok_Painter_drawPolygon S66 (r66 &&& (15 : Int32)) a5 p66.1 (gw_and15 _)) (fun _ S88 p88 => ?_))
        refine gw_goto (pc := 91) (tgt := 119) F d_Painter_drawShape_91 (by decide) ?_
        exact gw_vret (pc := 119) F d_Painter_drawShape_119
      · refine gw_iload (pc := 78) F 0 d_Painter_drawShape_78 rfl ?_
        refine gw_bipush (pc := 80) (v := (15 : Int32)) F d_Painter_drawShape_80 (by decide) ?_
        refine gw_iand (pc := 82) F d_Painter_drawShape_82 ?_
        refine gw_goto (pc := 83) (tgt := 88) F d_Painter_drawShape_83 (by decide) ?_
        refine gw_cV (pc := 88) (As := [.int (r66 &&& (15 : Int32)), .int (r36 &&& (15 : Int32))]) (rest := []) F (c_Painter_drawPolygon (gw_FJ F) S66 (r66 &&& (15 : Int32)) (r36 &&& (15 : Int32)) p66.1 (gw_and15 _)) cw_Painter_drawPolygon cv_Painter_drawPolygon tw_351 rfl (by omega) (by decide) (by decide) cE_Painter rfl rfl rfl rfl (Nat.le_of_ble_eq_true rfl) d_Painter_drawShape_88 (gw_bV (P := fun _ U => cOK U) (po_ok_Painter_drawPolygon S66 (r66 &&& (15 : Int32)) (r36 &&& (15 : Int32)) p66.1 (gw_and15 _)) (fun _ S88 p88 => ?_))
        refine gw_goto (pc := 91) (tgt := 119) F d_Painter_drawShape_91 (by decide) ?_
        exact gw_vret (pc := 119) F d_Painter_drawShape_119
  · exact gw_vret (pc := 10) F d_Painter_drawShape_10
set_option maxHeartbeats 4000000 in
set_option maxRecDepth 100000 in
theorem po_ok_Painter_drawShape {K : Nat} {gr : gw_S → Int32 → Int32 → Int32 → Int32 → Int32 → Int32 → Unit × gw_S} (hK : K ≤ 5) (hgo : ∀ (S : gw_S) (b1 b2 b3 b4 b5 b6 : Int32), cOK S → cXb b6 b2 → cXb b6 b3 → cSh b4 → b6.toInt + (K : Int) = 5 → b6.toInt ≤ 4 → cOK (gr S b1 b2 b3 b4 b5 b6).2)  (S : gw_S) (a1 : Int32) (a2 : Int32) (a3 : Int32) (a4 : Int32) (a5 : Int32) (a6 : Int32) (hf_ok : cOK S) (hx : cXb a6 a2) (hy : cXb a6 a3) (hz : cSh a4) (h6 : a6.toInt + (K : Int) = 5) : cOK (f_Painter_drawShape gr S a1 a2 a3 a4 a5 a6).2 := by
  unfold f_Painter_drawShape
  refine po_if (Φ := fun p : Unit × gw_S => cOK p.2) (fun h7 => ?_) (fun h7 => ?_)
  · refine po_n (Φ := fun p : Unit × gw_S => cOK p.2) (fun S18 E18 => ?_)
    refine po_n (Φ := fun p : Unit × gw_S => cOK p.2) (fun S28 E28 => ?_)
    refine po_b (Φ := fun p : Unit × gw_S => cOK p.2) (P := fun r U => cOK U ∧ vp_in r 256) ⟨(po_ok_Bytes_read (Or.inr rfl) S28 a1 (cOK_o E28 (cOK_o E18 hf_ok (by omega)) (by omega))), (cb_read (Or.inr rfl) S28 a1 (cOK_o E28 (cOK_o E18 hf_ok (by omega)) (by omega)))⟩ (fun r36 S36 p36 => ?_)
    refine po_if (Φ := fun p : Unit × gw_S => cOK p.2) (fun h46 => ?_) (fun h46 => ?_)
    · refine po_if (Φ := fun p : Unit × gw_S => cOK p.2) (fun h97 => ?_) (fun h97 => ?_)
      · refine po_if (Φ := fun p : Unit × gw_S => cOK p.2) (fun h103 => ?_) (fun h103 => ?_)
        · exact p36.1
        · refine po_b (Φ := fun p : Unit × gw_S => cOK p.2) (P := fun _ U => cOK U) (hgo S36 a1 a2 a3 a4 a5 a6 p36.1 hx hy hz h6 (gw_le4 h103)) (fun _ S116 p116 => ?_)
          exact p116
      · exact p36.1
    · refine po_b (Φ := fun p : Unit × gw_S => cOK p.2) (P := fun _ U => cOK U) (po_ok_Painter_placePairs S36 a1 a2 a3 a4 p36.1 (cXb_z hx h6) (cXb_z hy h6) hz) (fun _ S55 p55 => ?_)
      refine po_b (Φ := fun p : Unit × gw_S => cOK p.2) (P := fun r U => cOK U ∧ vp_in r 256) ⟨(po_ok_Bytes_read (Or.inr rfl) S55 (a1 + (3 : Int32)) p55), (cb_read (Or.inr rfl) S55 (a1 + (3 : Int32)) p55)⟩ (fun r66 S66 p66 => ?_)
      refine po_if (Φ := fun p : Unit × gw_S => cOK p.2) (fun h75 => ?_) (fun h75 => ?_)
      · refine po_b (Φ := fun p : Unit × gw_S => cOK p.2) (P := fun _ U => cOK U) (po_ok_Painter_drawPolygon S66 (r66 &&& (15 : Int32)) (r36 &&& (15 : Int32)) p66.1 (gw_and15 _)) (fun _ S88 p88 => ?_)
        exact p88
      · refine po_b (Φ := fun p : Unit × gw_S => cOK p.2) (P := fun _ U => cOK U) (po_ok_Painter_drawPolygon S66 (r66 &&& (15 : Int32)) a5 p66.1 (gw_and15 _)) (fun _ S88 p88 => ?_)
        exact p88
  · exact hf_ok
noncomputable def f_Painter_drawShapeK : Nat → gw_S → Int32 → Int32 → Int32 → Int32 → Int32 → Int32 → Unit × gw_S
  | 0 => f_Painter_drawShape (fun S _ _ _ _ _ _ => ((), S))
  | k + 1 => f_Painter_drawShape (f_Painter_drawGroup (f_Painter_drawShapeK k))
theorem po_ok_Painter_drawShapeK : ∀ (k : Nat), k ≤ 5 → ∀ (S : gw_S) (b1 b2 b3 b4 b5 b6 : Int32), cOK S → cXb b6 b2 → cXb b6 b3 → cSh b4 → b6.toInt + (k : Int) = 5 → cOK (f_Painter_drawShapeK k S b1 b2 b3 b4 b5 b6).2 := by
  intro k
  induction k with
  | zero =>
    intro hk S b1 b2 b3 b4 b5 b6 h1 h2 h3 h4 h5
    exact po_ok_Painter_drawShape (K := 0) hk (fun S b1 b2 b3 b4 b5 b6 _ _ _ _ h5 h6 => absurd h5 (by omega)) S b1 b2 b3 b4 b5 b6 h1 h2 h3 h4 h5
  | succ k ih =>
    intro hk S b1 b2 b3 b4 b5 b6 h1 h2 h3 h4 h5
    exact po_ok_Painter_drawShape (K := k + 1) hk (fun S b1 b2 b3 b4 b5 b6 h1 h2 h3 h4 h5 h6 => po_ok_Painter_drawGroup (K := k + 1) hk (ih (by omega)) S b1 b2 b3 b4 b5 b6 h1 h2 h3 h4 h5 h6) S b1 b2 b3 b4 b5 b6 h1 h2 h3 h4 h5
theorem c_Painter_drawShapeL (hJ : gw_J 46 ad) : ∀ (k : Nat), k ≤ 5 → ∀ (S : gw_S) (b1 b2 b3 b4 b5 b6 : Int32), cOK S → cXb b6 b2 → cXb b6 b3 → cSh b4 → b6.toInt + (k : Int) = 5 → gw_M l y_Painter_drawShape prog_5_method_3_code 8 none gTs (gw_rm (5 + 2 * k)) D gCl (gTys cI cB cC cZ) 46 ad (cE ad cI cB cC) gw_rV [.ref (ad 6), .int b1, .int b2, .int b3, .int b4, .int b5, .int b6] S (f_Painter_drawShapeK k S b1 b2 b3 b4 b5 b6) := by
  intro k
  induction k with
  | zero =>
    intro hk S b1 b2 b3 b4 b5 b6 h1 h2 h3 h4 h5
    exact c_Painter_drawShape hJ (K := 0) (dG := 4) hk (by omega) (fun S b1 b2 b3 b4 b5 b6 _ _ _ _ h5 h6 => absurd h5 (by omega)) (fun S b1 b2 b3 b4 b5 b6 _ _ _ _ h5 h6 => absurd h5 (by omega)) S b1 b2 b3 b4 b5 b6 h1 h2 h3 h4 h5
  | succ k ih =>
    intro hk S b1 b2 b3 b4 b5 b6 h1 h2 h3 h4 h5
    exact c_Painter_drawShape hJ (K := k + 1) (dG := 5 + 2 * k + 1) hk (by omega) (fun S b1 b2 b3 b4 b5 b6 h1 h2 h3 h4 h5 h6 => c_Painter_drawGroup hJ (K := k + 1) (dS := 5 + 2 * k) hk (by omega) (ih (by omega)) (po_ok_Painter_drawShapeK k (by omega)) S b1 b2 b3 b4 b5 b6 h1 h2 h3 h4 h5 h6) (fun S b1 b2 b3 b4 b5 b6 h1 h2 h3 h4 h5 h6 => po_ok_Painter_drawGroup (K := k + 1) hk (po_ok_Painter_drawShapeK k (by omega)) S b1 b2 b3 b4 b5 b6 h1 h2 h3 h4 h5 h6) S b1 b2 b3 b4 b5 b6 h1 h2 h3 h4 h5
noncomputable def f_Player_draw   (S : gw_S)  : Unit × gw_S := (gw_b (f_Player_nextAddress S) fun r1 S1 => gw_b (f_Player_nextVariable S1) fun r10 S10 => gw_n (S10 4 (r10 : Int32).toNatClampNeg) fun v14 => gw_b (f_Player_nextVariable S10) fun r20 S20 => gw_n (S20 4 (r20 : Int32).toNatClampNeg) fun v24 => gw_b (f_Player_nextByte S20) fun r26 S26 => if (128 : Int32) ≤ r26 then (gw_n (gw_u S26 6 5 (0 : Int32)) fun S61 => gw_b ((f_Painter_drawShapeK 5) S61 r1 v14 v24 (64 : Int32) (-1 : Int32) (0 : Int32)) fun _ S75 => ((), S75)) else (gw_n (S26 4 ((r26 &&& (31 : Int32)) : Int32).toNatClampNeg) fun v54 => gw_n (gw_u S26 6 5 (0 : Int32)) fun S61 => gw_b ((f_Painter_drawShapeK 5) S61 r1 v14 v24 v54 (-1 : Int32) (0 : Int32)) fun _ S75 => ((), S75)))
set_option maxHeartbeats 4000000 in
set_option maxRecDepth 100000 in
theorem c_Player_draw (hJ : gw_J 46 ad)   (S : gw_S)  (hf_ok : cOK S) : gw_M l y_Player_draw prog_6_method_14_code 6 none gTs (gw_rm 16) D gCl (gTys cI cB cC cZ) 46 ad (cE ad cI cB cC) gw_rV [.ref (ad 1)] S (f_Player_draw S) := by
  refine gw_start gTs_ok (plainFor_of_name (by decide)) hJ (Nat.le_of_ble_eq_true rfl) (fun X A F => ?_)
  refine gw_lve (lv' := [(0, .ref (ad 1))]) rfl ?_
  unfold f_Player_draw
  refine gw_aload_n (pc := 0) F 0 d_Player_draw_0 rfl rfl ?_
  refine gw_cV (pc := 1) (As := []) (rest := []) F (c_Player_nextAddress (gw_FJ F) S) cw_Player_nextAddress cv_Player_nextAddress tw_256 rfl (by decide) (by decide) (by decide) cE_Player rfl rfl rfl rfl (Nat.le_of_ble_eq_true rfl) d_Player_draw_1 (gw_bI (P := fun r U => cOK U) (po_ok_Player_nextAddress S hf_ok) (fun r1 S1 p1 => ?_))
  refine gw_istore_n (pc := 4) (lv' := [(1, .int r1), (0, .ref (ad 1))]) F d_Player_draw_4 rfl (by decide) rfl ?_
  refine gw_aload_n (pc := 5) F 1 d_Player_draw_5 rfl rfl ?_
  refine cg_Player_variables (pc := 6) F tw_137 d_Player_draw_6 ?_
  refine gw_aload_n (pc := 9) F 1 d_Player_draw_9 rfl rfl ?_
  refine gw_cV (pc := 10) (As := []) (rest := [.ref (ad 4)]) F (c_Player_nextVariable (gw_FJ F) S1) cw_Player_nextVariable cv_Player_nextVariable tw_236 rfl (by decide) (by decide) (by decide) cE_Player rfl rfl rfl rfl (Nat.le_of_ble_eq_true rfl) d_Player_draw_10 (gw_bI (P := fun r U => cOK U ∧ vp_in r 32) ⟨(po_ok_Player_nextVariable S1 p1), (cb_nextVariable S1)⟩ (fun r10 S10 p10 => ?_))
  refine cl_Vars (pc := 13) F p10.2 d_Player_draw_13 ?_
  refine gw_nI (fun v14 e14 => ?_)
  refine gw_istore_n (pc := 14) (lv' := [(2, .int v14), (1, .int r1), (0, .ref (ad 1))]) F d_Player_draw_14 rfl (by decide) rfl ?_
  refine gw_aload_n (pc := 15) F 2 d_Player_draw_15 rfl rfl ?_
  refine cg_Player_variables (pc := 16) F tw_137 d_Player_draw_16 ?_
  refine gw_aload_n (pc := 19) F 2 d_Player_draw_19 rfl rfl ?_
  refine gw_cV (pc := 20) (As := []) (rest := [.ref (ad 4)]) F (c_Player_nextVariable (gw_FJ F) S10) cw_Player_nextVariable cv_Player_nextVariable tw_236 rfl (by decide) (by decide) (by decide) cE_Player rfl rfl rfl rfl (Nat.le_of_ble_eq_true rfl) d_Player_draw_20 (gw_bI (P := fun r U => cOK U ∧ vp_in r 32) ⟨(po_ok_Player_nextVariable S10 p10.1), (cb_nextVariable S10)⟩ (fun r20 S20 p20 => ?_))
  refine cl_Vars (pc := 23) F p20.2 d_Player_draw_23 ?_
  refine gw_nI (fun v24 e24 => ?_)
  refine gw_istore_n (pc := 24) (lv' := [(3, .int v24), (2, .int v14), (1, .int r1), (0, .ref (ad 1))]) F d_Player_draw_24 rfl (by decide) rfl ?_
  refine gw_aload_n (pc := 25) F 3 d_Player_draw_25 rfl rfl ?_
  refine gw_cV (pc := 26) (As := []) (rest := []) F (c_Player_nextByte (gw_FJ F) S20) cw_Player_nextByte cv_Player_nextByte tw_227 rfl (by decide) (by decide) (by decide) cE_Player rfl rfl rfl rfl (Nat.le_of_ble_eq_true rfl) d_Player_draw_26 (gw_bI (P := fun r U => cOK U) (po_ok_Player_nextByte S20 p20.1) (fun r26 S26 p26 => ?_))
  refine gw_istore (pc := 29) (lv' := [(4, .int r26), (3, .int v24), (2, .int v14), (1, .int r1), (0, .ref (ad 1))]) F d_Player_draw_29 (by decide) rfl ?_
  refine gw_iload (pc := 31) F 0 d_Player_draw_31 rfl ?_
  refine gw_sipush (pc := 33) (v := (128 : Int32)) F d_Player_draw_33 (by decide) ?_
  refine gw_icmp_geS (pc := 36) (tgt := 52) F d_Player_draw_36 (by decide) (fun h36 => ?_) (fun h36 => ?_)
  · refine gw_bipush (pc := 52) (v := (64 : Int32)) F d_Player_draw_52 (by decide) ?_
    refine gw_istore (pc := 54) (lv' := [(5, .int (64 : Int32)), (4, .int r26), (3, .int v24), (2, .int v14), (1, .int r1), (0, .ref (ad 1))]) F d_Player_draw_54 (by decide) rfl ?_
    refine gw_aload_n (pc := 56) F 5 d_Player_draw_56 rfl rfl ?_
    refine cg_Player_painter (pc := 57) F tw_141 d_Player_draw_57 ?_
    refine gw_iconst (pc := 60) (v := (0 : Int32)) F d_Player_draw_60 (by decide) ?_
    refine cpN_Painter_begunInDraw (pc := 61) F tw_77 d_Player_draw_61 ?_
    refine gw_nS (fun S61 E61 => ?_)
    refine gw_aload_n (pc := 64) F 5 d_Player_draw_64 rfl rfl ?_
    refine cg_Player_painter (pc := 65) F tw_141 d_Player_draw_65 ?_
    refine gw_iload_n (pc := 68) F 4 d_Player_draw_68 rfl rfl ?_
    refine gw_iload_n (pc := 69) F 3 d_Player_draw_69 rfl rfl ?_
    refine gw_iload_n (pc := 70) F 2 d_Player_draw_70 rfl rfl ?_
    refine gw_iload (pc := 71) F 0 d_Player_draw_71 rfl ?_
    refine gw_iconst (pc := 73) (v := (-1 : Int32)) F d_Player_draw_73 (by decide) ?_
    refine gw_iconst (pc := 74) (v := (0 : Int32)) F d_Player_draw_74 (by decide) ?_
    refine gw_cVN (pc := 75) (As := [.int r1, .int v14, .int v24, .int (64 : Int32), .int (-1 : Int32), .int (0 : Int32)]) (rest := []) F (c_Painter_drawShapeL (gw_FJ F) 5 (by decide) S61 r1 v14 v24 (64 : Int32) (-1 : Int32) (0 : Int32) (cOK_o E61 p26 (by omega)) (cXb_0 (cOK_sh p10.1 e14)) (cXb_0 (cOK_sh p20.1 e24)) cSh_64 (by decide)) cw_Painter_drawShape cv_Painter_drawShape tw_336 rfl (by decide) (by decide) (by decide) cE_Painter rfl rfl rfl rfl (Nat.le_of_ble_eq_true rfl) d_Player_draw_75 (gw_bV (P := fun _ U => cOK U) (po_ok_Painter_drawShapeK 5 (by decide) S61 r1 v14 v24 (64 : Int32) (-1 : Int32) (0 : Int32) (cOK_o E61 p26 (by omega)) (cXb_0 (cOK_sh p10.1 e14)) (cXb_0 (cOK_sh p20.1 e24)) cSh_64 (by decide)) (fun _ S75 p75 => ?_))
    exact gw_vret (pc := 78) F d_Player_draw_78
  · refine gw_aload_n (pc := 39) F 4 d_Player_draw_39 rfl rfl ?_
    refine cg_Player_variables (pc := 40) F tw_137 d_Player_draw_40 ?_
    refine gw_iload (pc := 43) F 0 d_Player_draw_43 rfl ?_
    refine gw_bipush (pc := 45) (v := (31 : Int32)) F d_Player_draw_45 (by decide) ?_
    refine gw_iand (pc := 47) F d_Player_draw_47 ?_
    refine cl_Vars (pc := 48) F (gw_and31 _) d_Player_draw_48 ?_
    refine gw_goto (pc := 49) (tgt := 54) F d_Player_draw_49 (by decide) ?_
    refine gw_nI (fun v54 e54 => ?_)
    refine gw_istore (pc := 54) (lv' := [(5, .int v54), (4, .int r26), (3, .int v24), (2, .int v14), (1, .int r1), (0, .ref (ad 1))]) F d_Player_draw_54 (by decide) rfl ?_
    refine gw_aload_n (pc := 56) F 5 d_Player_draw_56 rfl rfl ?_
    refine cg_Player_painter (pc := 57) F tw_141 d_Player_draw_57 ?_
    refine gw_iconst (pc := 60) (v := (0 : Int32)) F d_Player_draw_60 (by decide) ?_
    refine cpN_Painter_begunInDraw (pc := 61) F tw_77 d_Player_draw_61 ?_
    refine gw_nS (fun S61 E61 => ?_)
    refine gw_aload_n (pc := 64) F 5 d_Player_draw_64 rfl rfl ?_
    refine cg_Player_painter (pc := 65) F tw_141 d_Player_draw_65 ?_
    refine gw_iload_n (pc := 68) F 4 d_Player_draw_68 rfl rfl ?_
    refine gw_iload_n (pc := 69) F 3 d_Player_draw_69 rfl rfl ?_
    refine gw_iload_n (pc := 70) F 2 d_Player_draw_70 rfl rfl ?_
    refine gw_iload (pc := 71) F 0 d_Player_draw_71 rfl ?_
    refine gw_iconst (pc := 73) (v := (-1 : Int32)) F d_Player_draw_73 (by decide) ?_
    refine gw_iconst (pc := 74) (v := (0 : Int32)) F d_Player_draw_74 (by decide) ?_
    refine gw_cVN (pc := 75) (As := [.int r1, .int v14, .int v24, .int v54, .int (-1 : Int32), .int (0 : Int32)]) (rest := []) F (c_Painter_drawShapeL (gw_FJ F) 5 (by decide) S61 r1 v14 v24 v54 (-1 : Int32) (0 : Int32) (cOK_o E61 p26 (by omega)) (cXb_0 (cOK_sh p10.1 e14)) (cXb_0 (cOK_sh p20.1 e24)) (cOK_sh p26 e54) (by decide)) cw_Painter_drawShape cv_Painter_drawShape tw_336 rfl (by decide) (by decide) (by decide) cE_Painter rfl rfl rfl rfl (Nat.le_of_ble_eq_true rfl) d_Player_draw_75 (gw_bV (P := fun _ U => cOK U) (po_ok_Painter_drawShapeK 5 (by decide) S61 r1 v14 v24 v54 (-1 : Int32) (0 : Int32) (cOK_o E61 p26 (by omega)) (cXb_0 (cOK_sh p10.1 e14)) (cXb_0 (cOK_sh p20.1 e24)) (cOK_sh p26 e54) (by decide)) (fun _ S75 p75 => ?_))
    exact gw_vret (pc := 78) F d_Player_draw_78
set_option maxHeartbeats 4000000 in
set_option maxRecDepth 100000 in
theorem po_ok_Player_draw   (S : gw_S)  (hf_ok : cOK S) : cOK (f_Player_draw S).2 := by
  unfold f_Player_draw
  refine po_b (Φ := fun p : Unit × gw_S => cOK p.2) (P := fun r U => cOK U) (po_ok_Player_nextAddress S hf_ok) (fun r1 S1 p1 => ?_)
  refine po_b (Φ := fun p : Unit × gw_S => cOK p.2) (P := fun r U => cOK U ∧ vp_in r 32) ⟨(po_ok_Player_nextVariable S1 p1), (cb_nextVariable S1)⟩ (fun r10 S10 p10 => ?_)
  refine po_n (Φ := fun p : Unit × gw_S => cOK p.2) (fun v14 e14 => ?_)
  refine po_b (Φ := fun p : Unit × gw_S => cOK p.2) (P := fun r U => cOK U ∧ vp_in r 32) ⟨(po_ok_Player_nextVariable S10 p10.1), (cb_nextVariable S10)⟩ (fun r20 S20 p20 => ?_)
  refine po_n (Φ := fun p : Unit × gw_S => cOK p.2) (fun v24 e24 => ?_)
  refine po_b (Φ := fun p : Unit × gw_S => cOK p.2) (P := fun r U => cOK U) (po_ok_Player_nextByte S20 p20.1) (fun r26 S26 p26 => ?_)
  refine po_if (Φ := fun p : Unit × gw_S => cOK p.2) (fun h36 => ?_) (fun h36 => ?_)
  · refine po_n (Φ := fun p : Unit × gw_S => cOK p.2) (fun S61 E61 => ?_)
    refine po_b (Φ := fun p : Unit × gw_S => cOK p.2) (P := fun _ U => cOK U) (po_ok_Painter_drawShapeK 5 (by decide) S61 r1 v14 v24 (64 : Int32) (-1 : Int32) (0 : Int32) (cOK_o E61 p26 (by omega)) (cXb_0 (cOK_sh p10.1 e14)) (cXb_0 (cOK_sh p20.1 e24)) cSh_64 (by decide)) (fun _ S75 p75 => ?_)
    exact p75
  · refine po_n (Φ := fun p : Unit × gw_S => cOK p.2) (fun v54 e54 => ?_)
    refine po_n (Φ := fun p : Unit × gw_S => cOK p.2) (fun S61 E61 => ?_)
    refine po_b (Φ := fun p : Unit × gw_S => cOK p.2) (P := fun _ U => cOK U) (po_ok_Painter_drawShapeK 5 (by decide) S61 r1 v14 v24 v54 (-1 : Int32) (0 : Int32) (cOK_o E61 p26 (by omega)) (cXb_0 (cOK_sh p10.1 e14)) (cXb_0 (cOK_sh p20.1 e24)) (cOK_sh p26 e54) (by decide)) (fun _ S75 p75 => ?_)
    exact p75
noncomputable def f_Pages_copy   (S : gw_S) (a1 : Int32) (a2 : Int32) : Unit × gw_S := (gw_n (gw_a S 10 (va_cpy (S 10) (S 10) ((a2 * (2560 : Int32)) : Int32).toNatClampNeg ((a1 * (2560 : Int32)) : Int32).toNatClampNeg (2560 : Int32).toNatClampNeg)) fun S21 => ((), S21))
set_option maxHeartbeats 4000000 in
set_option maxRecDepth 100000 in
theorem c_Pages_copy (hJ : gw_J 46 ad)   (S : gw_S) (a1 : Int32) (a2 : Int32) (hf_ok : cOK S) (hb1 : vp_in a1 4) (hb2 : vp_in a2 4) : gw_M l y_Pages_copy prog_4_method_5_code 3 none gTs (gw_rm 1) D gCl (gTys cI cB cC cZ) 46 ad (cE ad cI cB cC) gw_rV [.ref (ad 9), .int a1, .int a2] S (f_Pages_copy S a1 a2) := by
  refine gw_start gTs_ok (plainFor_of_name (by decide)) hJ (Nat.le_of_ble_eq_true rfl) (fun X A F => ?_)
  refine gw_lve (lv' := [(0, .ref (ad 9)), (1, .int a1), (2, .int a2)]) rfl ?_
  unfold f_Pages_copy
  refine gw_aload_n (pc := 0) F 0 d_Pages_copy_0 rfl rfl ?_
  refine cg_Pages_pixels (pc := 1) F tw_52 d_Pages_copy_1 ?_
  refine gw_iload_n (pc := 4) F 2 d_Pages_copy_4 rfl rfl ?_
  refine gw_sipush (pc := 5) (v := (2560 : Int32)) F d_Pages_copy_5 (by decide) ?_
  refine gw_imul (pc := 8) F d_Pages_copy_8 ?_
  refine gw_aload_n (pc := 9) F 0 d_Pages_copy_9 rfl rfl ?_
  refine cg_Pages_pixels (pc := 10) F tw_52 d_Pages_copy_10 ?_
  refine gw_iload_n (pc := 13) F 1 d_Pages_copy_13 rfl rfl ?_
  refine gw_sipush (pc := 14) (v := (2560 : Int32)) F d_Pages_copy_14 (by decide) ?_
  refine gw_imul (pc := 17) F d_Pages_copy_17 ?_
  refine gw_sipush (pc := 18) (v := (2560 : Int32)) F d_Pages_copy_18 (by decide) ?_
  refine gw_copy (pc := 21) (rest := []) F 10 1 (by decide) cE_Pix rfl rfl (pg_4 hb2) (pg_4 hb1) (by decide) (pg_5 hb2) (pg_5 hb1) (fun q _ => (hf_ok 10 _).2.2.2.1 rfl) tw_329 tw_331 tw_330 tw_9 (by decide) (by decide) cE_Pix d_Pages_copy_21 ?_
  refine gw_nS (fun S21 E21 => ?_)
  exact gw_vret (pc := 24) F d_Pages_copy_24
set_option maxHeartbeats 4000000 in
set_option maxRecDepth 100000 in
theorem po_ok_Pages_copy   (S : gw_S) (a1 : Int32) (a2 : Int32) (hf_ok : cOK S) (hb1 : vp_in a1 4) (hb2 : vp_in a2 4) : cOK (f_Pages_copy S a1 a2).2 := by
  unfold f_Pages_copy
  refine po_n (Φ := fun p : Unit × gw_S => cOK p.2) (fun S21 E21 => ?_)
  exact (cOK_cp E21 hf_ok)
noncomputable def f_Player_handlePages   (S : gw_S) (a1 : Int32) : Unit × gw_S := (gw_b (f_Player_nextByte S) fun r10 S10 => gw_b (f_Pages_pageOf S10 r10) fun r13 S13 => (if a1 = 18 then (gw_n (gw_u S13 9 1 r13) fun S46 => ((), S46)) else (if a1 = 19 then (gw_b (f_Player_nextByte S13) fun r55 S55 => gw_b (f_Pages_fill S55 r13 (r55 &&& (15 : Int32))) fun _ S61 => ((), S61)) else (if a1 = 20 then (gw_b (f_Player_nextByte S13) fun r71 S71 => gw_b (f_Pages_pageOf S71 r71) fun r74 S74 => gw_b (f_Pages_copy S74 r13 r74) fun _ S77 => ((), S77)) else (gw_n (gw_u S13 9 2 r13) fun S85 => ((), S85))))))
set_option maxHeartbeats 4000000 in
set_option maxRecDepth 100000 in
theorem c_Player_handlePages (hJ : gw_J 46 ad)   (S : gw_S) (a1 : Int32) (hf_ok : cOK S) : gw_M l y_Player_handlePages prog_6_method_13_code 4 none gTs (gw_rm 4) D gCl (gTys cI cB cC cZ) 46 ad (cE ad cI cB cC) gw_rV [.ref (ad 1), .int a1] S (f_Player_handlePages S a1) := by
  refine gw_start gTs_ok (plainFor_of_name (by decide)) hJ (Nat.le_of_ble_eq_true rfl) (fun X A F => ?_)
  refine gw_lve (lv' := [(0, .ref (ad 1)), (1, .int a1)]) rfl ?_
  unfold f_Player_handlePages
  refine gw_aload_n (pc := 0) F 0 d_Player_handlePages_0 rfl rfl ?_
  refine cg_Player_painter (pc := 1) F tw_141 d_Player_handlePages_1 ?_
  refine cgN_Painter_pages (pc := 4) F tw_72 d_Player_handlePages_4 ?_
  refine gw_astore_n (pc := 7) (lv' := [(2, .ref (ad 9)), (0, .ref (ad 1)), (1, .int a1)]) F d_Player_handlePages_7 rfl (by decide) rfl ?_
  refine gw_aload_n (pc := 8) F 0 d_Player_handlePages_8 rfl rfl ?_
  refine gw_aload_n (pc := 9) F 1 d_Player_handlePages_9 rfl rfl ?_
  refine gw_cV (pc := 10) (As := []) (rest := [.ref (ad 9)]) F (c_Player_nextByte (gw_FJ F) S) cw_Player_nextByte cv_Player_nextByte tw_227 rfl (by decide) (by decide) (by decide) cE_Player rfl rfl rfl rfl (Nat.le_of_ble_eq_true rfl) d_Player_handlePages_10 (gw_bI (P := fun r U => cOK U) (po_ok_Player_nextByte S hf_ok) (fun r10 S10 p10 => ?_))
  refine gw_cV (pc := 13) (As := [.int r10]) (rest := []) F (c_Pages_pageOf (gw_FJ F) S10 r10) cw_Pages_pageOf cv_Pages_pageOf tw_311 rfl (by decide) (by decide) (by decide) cE_Pages rfl rfl rfl rfl (Nat.le_of_ble_eq_true rfl) d_Player_handlePages_13 (gw_bI (P := fun r U => cOK U ∧ vp_in r 4) ⟨(po_ok_Pages_pageOf S10 r10 p10), (cb_pageOf S10 r10 p10)⟩ (fun r13 S13 p13 => ?_))
  refine gw_istore_n (pc := 16) (lv' := [(3, .int r13), (2, .ref (ad 9)), (0, .ref (ad 1)), (1, .int a1)]) F d_Player_handlePages_16 rfl (by decide) rfl ?_
  refine gw_iload_n (pc := 17) F 3 d_Player_handlePages_17 rfl rfl ?_
  refine gw_spl (fun h18_18 => ?_) (fun h18_18 => ?_)
  · refine gw_tableIn (pc := 18) (tgt := 44) F d_Player_handlePages_18 h18_18 (by decide) (by decide) rfl (by decide) ?_
    refine gw_aload_n (pc := 44) F 1 d_Player_handlePages_44 rfl rfl ?_
    refine gw_iload_n (pc := 45) F 0 d_Player_handlePages_45 rfl rfl ?_
    refine cpN_Pages_working (pc := 46) F tw_56 d_Player_handlePages_46 ?_
    refine gw_nS (fun S46 E46 => ?_)
    refine gw_goto (pc := 49) (tgt := 88) F d_Player_handlePages_49 (by decide) ?_
    exact gw_vret (pc := 88) F d_Player_handlePages_88
  refine gw_spl (fun h18_19 => ?_) (fun h18_19 => ?_)
  · refine gw_tableIn (pc := 18) (tgt := 52) F d_Player_handlePages_18 h18_19 (by decide) (by decide) rfl (by decide) ?_
    refine gw_aload_n (pc := 52) F 1 d_Player_handlePages_52 rfl rfl ?_
    refine gw_iload_n (pc := 53) F 0 d_Player_handlePages_53 rfl rfl ?_
    refine gw_aload_n (pc := 54) F 2 d_Player_handlePages_54 rfl rfl ?_
    refine gw_cV (pc := 55) (As := []) (rest := [.int r13, .ref (ad 9)]) F (c_Player_nextByte (gw_FJ F) S13) cw_Player_nextByte cv_Player_nextByte tw_227 rfl (by decide) (by decide) (by decide) cE_Player rfl rfl rfl rfl (Nat.le_of_ble_eq_true rfl) d_Player_handlePages_55 (gw_bI (P := fun r U => cOK U) (po_ok_Player_nextByte S13 p13.1) (fun r55 S55 p55 => ?_))
    refine gw_bipush (pc := 58) (v := (15 : Int32)) F d_Player_handlePages_58 (by decide) ?_
    refine gw_iand (pc := 60) F d_Player_handlePages_60 ?_
    refine gw_cV (pc := 61) (As := [.int r13, .int (r55 &&& (15 : Int32))]) (rest := []) F (c_Pages_fill (gw_FJ F) S55 r13 (r55 &&& (15 : Int32)) p13.2) cw_Pages_fill cv_Pages_fill tw_315 rfl (by decide) (by decide) (by decide) cE_Pages rfl rfl rfl rfl (Nat.le_of_ble_eq_true rfl) d_Player_handlePages_61 (gw_bV (P := fun _ U => cOK U) (po_ok_Pages_fill S55 r13 (r55 &&& (15 : Int32)) p55 p13.2) (fun _ S61 p61 => ?_))
    refine gw_goto (pc := 64) (tgt := 88) F d_Player_handlePages_64 (by decide) ?_
    exact gw_vret (pc := 88) F d_Player_handlePages_88
  refine gw_spl (fun h18_20 => ?_) (fun h18_20 => ?_)
  · refine gw_tableIn (pc := 18) (tgt := 67) F d_Player_handlePages_18 h18_20 (by decide) (by decide) rfl (by decide) ?_
    refine gw_aload_n (pc := 67) F 1 d_Player_handlePages_67 rfl rfl ?_
    refine gw_iload_n (pc := 68) F 0 d_Player_handlePages_68 rfl rfl ?_
    refine gw_aload_n (pc := 69) F 1 d_Player_handlePages_69 rfl rfl ?_
    refine gw_aload_n (pc := 70) F 2 d_Player_handlePages_70 rfl rfl ?_
    refine gw_cV (pc := 71) (As := []) (rest := [.ref (ad 9), .int r13, .ref (ad 9)]) F (c_Player_nextByte (gw_FJ F) S13) cw_Player_nextByte cv_Player_nextByte tw_227 rfl (by decide) (by decide) (by decide) cE_Player rfl rfl rfl rfl (Nat.le_of_ble_eq_true rfl) d_Player_handlePages_71 (gw_bI (P := fun r U => cOK U) (po_ok_Player_nextByte S13 p13.1) (fun r71 S71 p71 => ?_))
    refine gw_cV (pc := 74) (As := [.int r71]) (rest := [.int r13, .ref (ad 9)]) F (c_Pages_pageOf (gw_FJ F) S71 r71) cw_Pages_pageOf cv_Pages_pageOf tw_311 rfl (by decide) (by decide) (by decide) cE_Pages rfl rfl rfl rfl (Nat.le_of_ble_eq_true rfl) d_Player_handlePages_74 (gw_bI (P := fun r U => cOK U ∧ vp_in r 4) ⟨(po_ok_Pages_pageOf S71 r71 p71), (cb_pageOf S71 r71 p71)⟩ (fun r74 S74 p74 => ?_))
    refine gw_cV (pc := 77) (As := [.int r13, .int r74]) (rest := []) F (c_Pages_copy (gw_FJ F) S74 r13 r74 p74.1 p13.2 p74.2) cw_Pages_copy cv_Pages_copy tw_325 rfl (by decide) (by decide) (by decide) cE_Pages rfl rfl rfl rfl (Nat.le_of_ble_eq_true rfl) d_Player_handlePages_77 (gw_bV (P := fun _ U => cOK U) (po_ok_Pages_copy S74 r13 r74 p74.1 p13.2 p74.2) (fun _ S77 p77 => ?_))
    refine gw_goto (pc := 80) (tgt := 88) F d_Player_handlePages_80 (by decide) ?_
    exact gw_vret (pc := 88) F d_Player_handlePages_88
  refine gw_tableOut (pc := 18) (tgt := 83) F d_Player_handlePages_18 (by have ne_18 : ¬ (a1 : Int32).toInt = 18 := gw_ne h18_18; have ne_19 : ¬ (a1 : Int32).toInt = 19 := gw_ne h18_19; have ne_20 : ¬ (a1 : Int32).toInt = 20 := gw_ne h18_20; omega) (by decide) ?_
  refine gw_aload_n (pc := 83) F 1 d_Player_handlePages_83 rfl rfl ?_
  refine gw_iload_n (pc := 84) F 0 d_Player_handlePages_84 rfl rfl ?_
  refine cpN_Pages_shown (pc := 85) F tw_59 d_Player_handlePages_85 ?_
  refine gw_nS (fun S85 E85 => ?_)
  exact gw_vret (pc := 88) F d_Player_handlePages_88
set_option maxHeartbeats 4000000 in
set_option maxRecDepth 100000 in
theorem po_ok_Player_handlePages   (S : gw_S) (a1 : Int32) (hf_ok : cOK S) : cOK (f_Player_handlePages S a1).2 := by
  unfold f_Player_handlePages
  refine po_b (Φ := fun p : Unit × gw_S => cOK p.2) (P := fun r U => cOK U) (po_ok_Player_nextByte S hf_ok) (fun r10 S10 p10 => ?_)
  refine po_b (Φ := fun p : Unit × gw_S => cOK p.2) (P := fun r U => cOK U ∧ vp_in r 4) ⟨(po_ok_Pages_pageOf S10 r10 p10), (cb_pageOf S10 r10 p10)⟩ (fun r13 S13 p13 => ?_)
  refine po_if (Φ := fun p : Unit × gw_S => cOK p.2) (fun h18_18 => ?_) (fun h18_18 => ?_)
  · refine po_n (Φ := fun p : Unit × gw_S => cOK p.2) (fun S46 E46 => ?_)
    exact (cOK_g E46 p13.1 p13.2)
  refine po_if (Φ := fun p : Unit × gw_S => cOK p.2) (fun h18_19 => ?_) (fun h18_19 => ?_)
  · refine po_b (Φ := fun p : Unit × gw_S => cOK p.2) (P := fun r U => cOK U) (po_ok_Player_nextByte S13 p13.1) (fun r55 S55 p55 => ?_)
    refine po_b (Φ := fun p : Unit × gw_S => cOK p.2) (P := fun _ U => cOK U) (po_ok_Pages_fill S55 r13 (r55 &&& (15 : Int32)) p55 p13.2) (fun _ S61 p61 => ?_)
    exact p61
  refine po_if (Φ := fun p : Unit × gw_S => cOK p.2) (fun h18_20 => ?_) (fun h18_20 => ?_)
  · refine po_b (Φ := fun p : Unit × gw_S => cOK p.2) (P := fun r U => cOK U) (po_ok_Player_nextByte S13 p13.1) (fun r71 S71 p71 => ?_)
    refine po_b (Φ := fun p : Unit × gw_S => cOK p.2) (P := fun r U => cOK U ∧ vp_in r 4) ⟨(po_ok_Pages_pageOf S71 r71 p71), (cb_pageOf S71 r71 p71)⟩ (fun r74 S74 p74 => ?_)
    refine po_b (Φ := fun p : Unit × gw_S => cOK p.2) (P := fun _ U => cOK U) (po_ok_Pages_copy S74 r13 r74 p74.1 p13.2 p74.2) (fun _ S77 p77 => ?_)
    exact p77
  refine po_n (Φ := fun p : Unit × gw_S => cOK p.2) (fun S85 E85 => ?_)
  exact (cOK_g E85 p13.1 p13.2)
noncomputable def f_Player_doInstruction  (j : Nat) (S : gw_S)  : Unit × gw_S := (gw_b (f_Player_nextByte S) fun r1 S1 => if (8 : Int32) < r1 then (if r1 = 9 then (gw_b (f_Player_nextAddress S1) fun r90 S90 => gw_n (gw_u S90 1 4 r90) fun S93 => ((), S93)) else (if r1 = 10 then (gw_b (f_Player_callAddress j S1) fun _ S101 => ((), S101)) else (if r1 = 11 then (gw_b (f_Player_comeBack j S1) fun _ S109 => ((), S109)) else (if r1 = 12 then (gw_b (f_Player_loop S1) fun _ S116 => ((), S116)) else (if r1 = 13 then (gw_b (f_Player_jumpIf j S1) fun _ S124 => ((), S124)) else (if r1 = 14 then (gw_n (gw_u S1 1 5 (0 : Int32)) fun S132 => ((), S132)) else (if r1 = 15 then (gw_b (f_Player_end S1) fun _ S139 => ((), S139)) else (if r1 = 16 then (gw_b (f_Player_startOther S1) fun _ S146 => ((), S146)) else (if r1 = 17 then (gw_b (f_Player_askOfEach j S1) fun _ S154 => ((), S154)) else (if r1 = 18 then (gw_b (f_Player_handlePages S1 r1) fun _ S162 => ((), S162)) else (if r1 = 19 then (gw_b (f_Player_handlePages S1 r1) fun _ S162 => ((), S162)) else (if r1 = 20 then (gw_b (f_Player_handlePages S1 r1) fun _ S162 => ((), S162)) else (if r1 = 21 then (gw_b (f_Player_handlePages S1 r1) fun _ S162 => ((), S162)) else (if r1 = 22 then (gw_b (f_Player_draw S1) fun _ S169 => ((), S169)) else (gw_b (f_Player_fail j S1 (5 : Int32)) fun _ S178 => ((), S178)))))))))))))))) else (gw_b (f_Player_compute S1 r1) fun _ S13 => ((), S13)))
set_option maxHeartbeats 4000000 in
set_option maxRecDepth 100000 in
theorem c_Player_doInstruction (hJ : gw_J 46 ad)  {j : Nat} (hj : j < 16) (S : gw_S)  (hf_ok : cOK S) : gw_M l y_Player_doInstruction prog_6_method_3_code 3 none gTs (gw_rm 17) D gCl (gTys cI cB cC cZ) 46 ad (cE ad cI cB cC) gw_rV [.ref (ad 1), .ref (ad (j + 14))] S (f_Player_doInstruction j S) := by
  refine gw_start gTs_ok (plainFor_of_name (by decide)) hJ (Nat.le_of_ble_eq_true rfl) (fun X A F => ?_)
  refine gw_lve (lv' := [(0, .ref (ad 1)), (1, .ref (ad (j + 14)))]) rfl ?_
  unfold f_Player_doInstruction
  refine gw_aload_n (pc := 0) F 0 d_Player_doInstruction_0 rfl rfl ?_
  refine gw_cV (pc := 1) (As := []) (rest := []) F (c_Player_nextByte (gw_FJ F) S) cw_Player_nextByte cv_Player_nextByte tw_227 rfl (by decide) (by decide) (by decide) cE_Player rfl rfl rfl rfl (Nat.le_of_ble_eq_true rfl) d_Player_doInstruction_1 (gw_bI (P := fun r U => cOK U) (po_ok_Player_nextByte S hf_ok) (fun r1 S1 p1 => ?_))
  refine gw_istore_n (pc := 4) (lv' := [(2, .int r1), (0, .ref (ad 1)), (1, .ref (ad (j + 14)))]) F d_Player_doInstruction_4 rfl (by decide) rfl ?_
  refine gw_iload_n (pc := 5) F 0 d_Player_doInstruction_5 rfl rfl ?_
  refine gw_bipush (pc := 6) (v := (8 : Int32)) F d_Player_doInstruction_6 (by decide) ?_
  refine gw_icmp_gtS (pc := 8) (tgt := 17) F d_Player_doInstruction_8 (by decide) (fun h8 => ?_) (fun h8 => ?_)
  · refine gw_iload_n (pc := 17) F 0 d_Player_doInstruction_17 rfl rfl ?_
    refine gw_spl (fun h18_9 => ?_) (fun h18_9 => ?_)
    · refine gw_tableIn (pc := 18) (tgt := 88) F d_Player_doInstruction_18 h18_9 (by decide) (by decide) rfl (by decide) ?_
      refine gw_aload_n (pc := 88) F 1 d_Player_doInstruction_88 rfl rfl ?_
      refine gw_aload_n (pc := 89) F 1 d_Player_doInstruction_89 rfl rfl ?_
      refine gw_cV (pc := 90) (As := []) (rest := [.ref (ad 1)]) F (c_Player_nextAddress (gw_FJ F) S1) cw_Player_nextAddress cv_Player_nextAddress tw_256 rfl (by decide) (by decide) (by decide) cE_Player rfl rfl rfl rfl (Nat.le_of_ble_eq_true rfl) d_Player_doInstruction_90 (gw_bI (P := fun r U => cOK U) (po_ok_Player_nextAddress S1 p1) (fun r90 S90 p90 => ?_))
      refine cp_Player_at (pc := 93) F tw_143 d_Player_doInstruction_93 ?_
      refine gw_nS (fun S93 E93 => ?_)
      refine gw_goto (pc := 96) (tgt := 181) F d_Player_doInstruction_96 (by decide) ?_
      exact gw_vret (pc := 181) F d_Player_doInstruction_181
    refine gw_spl (fun h18_10 => ?_) (fun h18_10 => ?_)
    · refine gw_tableIn (pc := 18) (tgt := 99) F d_Player_doInstruction_18 h18_10 (by decide) (by decide) rfl (by decide) ?_
      refine gw_aload_n (pc := 99) F 1 d_Player_doInstruction_99 rfl rfl ?_
      refine gw_aload_n (pc := 100) F 2 d_Player_doInstruction_100 rfl rfl ?_
      refine gw_cV (pc := 101) (As := [.ref (ad (j + 14))]) (rest := []) F (c_Player_callAddress (gw_FJ F) hj S1) cw_Player_callAddress cv_Player_callAddress tw_260 rfl (by decide) (by decide) (by decide) cE_Player rfl rfl rfl rfl (Nat.le_of_ble_eq_true rfl) d_Player_doInstruction_101 (gw_bV (P := fun _ U => cOK U) (po_ok_Player_callAddress hj S1 p1) (fun _ S101 p101 => ?_))
      refine gw_goto (pc := 104) (tgt := 181) F d_Player_doInstruction_104 (by decide) ?_
      exact gw_vret (pc := 181) F d_Player_doInstruction_181
    refine gw_spl (fun h18_11 => ?_) (fun h18_11 => ?_)
    · refine gw_tableIn (pc := 18) (tgt := 107) F d_Player_doInstruction_18 h18_11 (by decide) (by decide) rfl (by decide) ?_
      refine gw_aload_n (pc := 107) F 1 d_Player_doInstruction_107 rfl rfl ?_
      refine gw_aload_n (pc := 108) F 2 d_Player_doInstruction_108 rfl rfl ?_
      refine gw_cV (pc := 109) (As := [.ref (ad (j + 14))]) (rest := []) F (c_Player_comeBack (gw_FJ F) hj S1) cw_Player_comeBack cv_Player_comeBack tw_276 rfl (by decide) (by decide) (by decide) cE_Player rfl rfl rfl rfl (Nat.le_of_ble_eq_true rfl) d_Player_doInstruction_109 (gw_bV (P := fun _ U => cOK U) (po_ok_Player_comeBack hj S1 p1) (fun _ S109 p109 => ?_))
      refine gw_goto (pc := 112) (tgt := 181) F d_Player_doInstruction_112 (by decide) ?_
      exact gw_vret (pc := 181) F d_Player_doInstruction_181
    refine gw_spl (fun h18_12 => ?_) (fun h18_12 => ?_)
    · refine gw_tableIn (pc := 18) (tgt := 115) F d_Player_doInstruction_18 h18_12 (by decide) (by decide) rfl (by decide) ?_
      refine gw_aload_n (pc := 115) F 1 d_Player_doInstruction_115 rfl rfl ?_
      refine gw_cV (pc := 116) (As := []) (rest := []) F (c_Player_loop (gw_FJ F) S1) cw_Player_loop cv_Player_loop tw_284 rfl (by decide) (by decide) (by decide) cE_Player rfl rfl rfl rfl (Nat.le_of_ble_eq_true rfl) d_Player_doInstruction_116 (gw_bV (P := fun _ U => cOK U) (po_ok_Player_loop S1 p1) (fun _ S116 p116 => ?_))
      refine gw_goto (pc := 119) (tgt := 181) F d_Player_doInstruction_119 (by decide) ?_
      exact gw_vret (pc := 181) F d_Player_doInstruction_181
    refine gw_spl (fun h18_13 => ?_) (fun h18_13 => ?_)
    · refine gw_tableIn (pc := 18) (tgt := 122) F d_Player_doInstruction_18 h18_13 (by decide) (by decide) rfl (by decide) ?_
      refine gw_aload_n (pc := 122) F 1 d_Player_doInstruction_122 rfl rfl ?_
      refine gw_aload_n (pc := 123) F 2 d_Player_doInstruction_123 rfl rfl ?_
      refine gw_cV (pc := 124) (As := [.ref (ad (j + 14))]) (rest := []) F (c_Player_jumpIf (gw_FJ F) hj S1) cw_Player_jumpIf cv_Player_jumpIf tw_288 rfl (by decide) (by decide) (by decide) cE_Player rfl rfl rfl rfl (Nat.le_of_ble_eq_true rfl) d_Player_doInstruction_124 (gw_bV (P := fun _ U => cOK U) (po_ok_Player_jumpIf hj S1 p1) (fun _ S124 p124 => ?_))
      refine gw_goto (pc := 127) (tgt := 181) F d_Player_doInstruction_127 (by decide) ?_
      exact gw_vret (pc := 181) F d_Player_doInstruction_181
    refine gw_spl (fun h18_14 => ?_) (fun h18_14 => ?_)
    · refine gw_tableIn (pc := 18) (tgt := 130) F d_Player_doInstruction_18 h18_14 (by decide) (by decide) rfl (by decide) ?_
      refine gw_aload_n (pc := 130) F 1 d_Player_doInstruction_130 rfl rfl ?_
      refine gw_iconst (pc := 131) (v := (0 : Int32)) F d_Player_doInstruction_131 (by decide) ?_
      refine cp_Player_goingOn (pc := 132) F tw_144 d_Player_doInstruction_132 rfl rfl ?_
      refine gw_nS (fun S132 E132 => ?_)
      refine gw_goto (pc := 135) (tgt := 181) F d_Player_doInstruction_135 (by decide) ?_
      exact gw_vret (pc := 181) F d_Player_doInstruction_181
    refine gw_spl (fun h18_15 => ?_) (fun h18_15 => ?_)
    · refine gw_tableIn (pc := 18) (tgt := 138) F d_Player_doInstruction_18 h18_15 (by decide) (by decide) rfl (by decide) ?_
      refine gw_aload_n (pc := 138) F 1 d_Player_doInstruction_138 rfl rfl ?_
      refine gw_cV (pc := 139) (As := []) (rest := []) F (c_Player_end (gw_FJ F) S1) cw_Player_end cv_Player_end tw_272 rfl (by decide) (by decide) (by decide) cE_Player rfl rfl rfl rfl (Nat.le_of_ble_eq_true rfl) d_Player_doInstruction_139 (gw_bV (P := fun _ U => cOK U) (po_ok_Player_end S1 p1) (fun _ S139 p139 => ?_))
      refine gw_goto (pc := 142) (tgt := 181) F d_Player_doInstruction_142 (by decide) ?_
      exact gw_vret (pc := 181) F d_Player_doInstruction_181
    refine gw_spl (fun h18_16 => ?_) (fun h18_16 => ?_)
    · refine gw_tableIn (pc := 18) (tgt := 145) F d_Player_doInstruction_18 h18_16 (by decide) (by decide) rfl (by decide) ?_
      refine gw_aload_n (pc := 145) F 1 d_Player_doInstruction_145 rfl rfl ?_
      refine gw_cV (pc := 146) (As := []) (rest := []) F (c_Player_startOther (gw_FJ F) S1) cw_Player_startOther cv_Player_startOther tw_299 rfl (by decide) (by decide) (by decide) cE_Player rfl rfl rfl rfl (Nat.le_of_ble_eq_true rfl) d_Player_doInstruction_146 (gw_bV (P := fun _ U => cOK U) (po_ok_Player_startOther S1 p1) (fun _ S146 p146 => ?_))
      refine gw_goto (pc := 149) (tgt := 181) F d_Player_doInstruction_149 (by decide) ?_
      exact gw_vret (pc := 181) F d_Player_doInstruction_181
    refine gw_spl (fun h18_17 => ?_) (fun h18_17 => ?_)
    · refine gw_tableIn (pc := 18) (tgt := 152) F d_Player_doInstruction_18 h18_17 (by decide) (by decide) rfl (by decide) ?_
      refine gw_aload_n (pc := 152) F 1 d_Player_doInstruction_152 rfl rfl ?_
      refine gw_aload_n (pc := 153) F 2 d_Player_doInstruction_153 rfl rfl ?_
      refine gw_cV (pc := 154) (As := [.ref (ad (j + 14))]) (rest := []) F (c_Player_askOfEach (gw_FJ F) hj S1) cw_Player_askOfEach cv_Player_askOfEach tw_303 rfl (by decide) (by decide) (by decide) cE_Player rfl rfl rfl rfl (Nat.le_of_ble_eq_true rfl) d_Player_doInstruction_154 (gw_bV (P := fun _ U => cOK U) (po_ok_Player_askOfEach hj S1 p1) (fun _ S154 p154 => ?_))
      refine gw_goto (pc := 157) (tgt := 181) F d_Player_doInstruction_157 (by decide) ?_
      exact gw_vret (pc := 181) F d_Player_doInstruction_181
    refine gw_spl (fun h18_18 => ?_) (fun h18_18 => ?_)
    · refine gw_tableIn (pc := 18) (tgt := 160) F d_Player_doInstruction_18 h18_18 (by decide) (by decide) rfl (by decide) ?_
      refine gw_aload_n (pc := 160) F 1 d_Player_doInstruction_160 rfl rfl ?_
      refine gw_iload_n (pc := 161) F 0 d_Player_doInstruction_161 rfl rfl ?_
      refine gw_cV (pc := 162) (As := [.int r1]) (rest := []) F (c_Player_handlePages (gw_FJ F) S1 r1 p1) cw_Player_handlePages cv_Player_handlePages tw_307 rfl (by decide) (by decide) (by decide) cE_Player rfl rfl rfl rfl (Nat.le_of_ble_eq_true rfl) d_Player_doInstruction_162 (gw_bV (P := fun _ U => cOK U) (po_ok_Player_handlePages S1 r1 p1) (fun _ S162 p162 => ?_))
      refine gw_goto (pc := 165) (tgt := 181) F d_Player_doInstruction_165 (by decide) ?_
      exact gw_vret (pc := 181) F d_Player_doInstruction_181
    refine gw_spl (fun h18_19 => ?_) (fun h18_19 => ?_)
    · refine gw_tableIn (pc := 18) (tgt := 160) F d_Player_doInstruction_18 h18_19 (by decide) (by decide) rfl (by decide) ?_
      refine gw_aload_n (pc := 160) F 1 d_Player_doInstruction_160 rfl rfl ?_
      refine gw_iload_n (pc := 161) F 0 d_Player_doInstruction_161 rfl rfl ?_
      refine gw_cV (pc := 162) (As := [.int r1]) (rest := []) F (c_Player_handlePages (gw_FJ F) S1 r1 p1) cw_Player_handlePages cv_Player_handlePages tw_307 rfl (by decide) (by decide) (by decide) cE_Player rfl rfl rfl rfl (Nat.le_of_ble_eq_true rfl) d_Player_doInstruction_162 (gw_bV (P := fun _ U => cOK U) (po_ok_Player_handlePages S1 r1 p1) (fun _ S162 p162 => ?_))
      refine gw_goto (pc := 165) (tgt := 181) F d_Player_doInstruction_165 (by decide) ?_
      exact gw_vret (pc := 181) F d_Player_doInstruction_181
    refine gw_spl (fun h18_20 => ?_) (fun h18_20 => ?_)
    · refine gw_tableIn (pc := 18) (tgt := 160) F d_Player_doInstruction_18 h18_20 (by decide) (by decide) rfl (by decide) ?_
      refine gw_aload_n (pc := 160) F 1 d_Player_doInstruction_160 rfl rfl ?_
      refine gw_iload_n (pc := 161) F 0 d_Player_doInstruction_161 rfl rfl ?_
      refine gw_cV (pc := 162) (As := [.int r1]) (rest := []) F (c_Player_handlePages (gw_FJ F) S1 r1 p1) cw_Player_handlePages cv_Player_handlePages tw_307 rfl (by decide) (by decide) (by decide) cE_Player rfl rfl rfl rfl (Nat.le_of_ble_eq_true rfl) d_Player_doInstruction_162 (gw_bV (P := fun _ U => cOK U) (po_ok_Player_handlePages S1 r1 p1) (fun _ S162 p162 => ?_))
      refine gw_goto (pc := 165) (tgt := 181) F d_Player_doInstruction_165 (by decide) ?_
      exact gw_vret (pc := 181) F d_Player_doInstruction_181
    refine gw_spl (fun h18_21 => ?_) (fun h18_21 => ?_)
    · refine gw_tableIn (pc := 18) (tgt := 160) F d_Player_doInstruction_18 h18_21 (by decide) (by decide) rfl (by decide) ?_
      refine gw_aload_n (pc := 160) F 1 d_Player_doInstruction_160 rfl rfl ?_
      refine gw_iload_n (pc := 161) F 0 d_Player_doInstruction_161 rfl rfl ?_
      refine gw_cV (pc := 162) (As := [.int r1]) (rest := []) F (c_Player_handlePages (gw_FJ F) S1 r1 p1) cw_Player_handlePages cv_Player_handlePages tw_307 rfl (by decide) (by decide) (by decide) cE_Player rfl rfl rfl rfl (Nat.le_of_ble_eq_true rfl) d_Player_doInstruction_162 (gw_bV (P := fun _ U => cOK U) (po_ok_Player_handlePages S1 r1 p1) (fun _ S162 p162 => ?_))
      refine gw_goto (pc := 165) (tgt := 181) F d_Player_doInstruction_165 (by decide) ?_
      exact gw_vret (pc := 181) F d_Player_doInstruction_181
    refine gw_spl (fun h18_22 => ?_) (fun h18_22 => ?_)
    · refine gw_tableIn (pc := 18) (tgt := 168) F d_Player_doInstruction_18 h18_22 (by decide) (by decide) rfl (by decide) ?_
      refine gw_aload_n (pc := 168) F 1 d_Player_doInstruction_168 rfl rfl ?_
      refine gw_cV (pc := 169) (As := []) (rest := []) F (c_Player_draw (gw_FJ F) S1 p1) cw_Player_draw cv_Player_draw tw_332 rfl (by decide) (by decide) (by decide) cE_Player rfl rfl rfl rfl (Nat.le_of_ble_eq_true rfl) d_Player_doInstruction_169 (gw_bV (P := fun _ U => cOK U) (po_ok_Player_draw S1 p1) (fun _ S169 p169 => ?_))
      refine gw_goto (pc := 172) (tgt := 181) F d_Player_doInstruction_172 (by decide) ?_
      exact gw_vret (pc := 181) F d_Player_doInstruction_181
    refine gw_tableOut (pc := 18) (tgt := 175) F d_Player_doInstruction_18 (by have ne_9 : ¬ (r1 : Int32).toInt = 9 := gw_ne h18_9; have ne_10 : ¬ (r1 : Int32).toInt = 10 := gw_ne h18_10; have ne_11 : ¬ (r1 : Int32).toInt = 11 := gw_ne h18_11; have ne_12 : ¬ (r1 : Int32).toInt = 12 := gw_ne h18_12; have ne_13 : ¬ (r1 : Int32).toInt = 13 := gw_ne h18_13; have ne_14 : ¬ (r1 : Int32).toInt = 14 := gw_ne h18_14; have ne_15 : ¬ (r1 : Int32).toInt = 15 := gw_ne h18_15; have ne_16 : ¬ (r1 : Int32).toInt = 16 := gw_ne h18_16; have ne_17 : ¬ (r1 : Int32).toInt = 17 := gw_ne h18_17; have ne_18 : ¬ (r1 : Int32).toInt = 18 := gw_ne h18_18; have ne_19 : ¬ (r1 : Int32).toInt = 19 := gw_ne h18_19; have ne_20 : ¬ (r1 : Int32).toInt = 20 := gw_ne h18_20; have ne_21 : ¬ (r1 : Int32).toInt = 21 := gw_ne h18_21; have ne_22 : ¬ (r1 : Int32).toInt = 22 := gw_ne h18_22; omega) (by decide) ?_
    refine gw_aload_n (pc := 175) F 1 d_Player_doInstruction_175 rfl rfl ?_
    refine gw_aload_n (pc := 176) F 2 d_Player_doInstruction_176 rfl rfl ?_
    refine gw_iconst (pc := 177) (v := (5 : Int32)) F d_Player_doInstruction_177 (by decide) ?_
    refine gw_cV (pc := 178) (As := [.ref (ad (j + 14)), .int (5 : Int32)]) (rest := []) F (c_Player_fail (gw_FJ F) hj S1 (5 : Int32)) cw_Player_fail cv_Player_fail tw_268 rfl (by decide) (by decide) (by decide) cE_Player rfl rfl rfl rfl (Nat.le_of_ble_eq_true rfl) d_Player_doInstruction_178 (gw_bV (P := fun _ U => cOK U) (po_ok_Player_fail hj S1 (5 : Int32) p1) (fun _ S178 p178 => ?_))
    exact gw_vret (pc := 181) F d_Player_doInstruction_181
  · refine gw_aload_n (pc := 11) F 1 d_Player_doInstruction_11 rfl rfl ?_
    refine gw_iload_n (pc := 12) F 0 d_Player_doInstruction_12 rfl rfl ?_
    refine gw_cV (pc := 13) (As := [.int r1]) (rest := []) F (c_Player_compute (gw_FJ F) S1 r1) cw_Player_compute cv_Player_compute tw_232 rfl (by decide) (by decide) (by decide) cE_Player rfl rfl rfl rfl (Nat.le_of_ble_eq_true rfl) d_Player_doInstruction_13 (gw_bV (P := fun _ U => cOK U) (po_ok_Player_compute S1 r1 p1) (fun _ S13 p13 => ?_))
    exact gw_vret (pc := 16) F d_Player_doInstruction_16
set_option maxHeartbeats 4000000 in
set_option maxRecDepth 100000 in
theorem po_ok_Player_doInstruction  {j : Nat} (hj : j < 16) (S : gw_S)  (hf_ok : cOK S) : cOK (f_Player_doInstruction j S).2 := by
  unfold f_Player_doInstruction
  refine po_b (Φ := fun p : Unit × gw_S => cOK p.2) (P := fun r U => cOK U) (po_ok_Player_nextByte S hf_ok) (fun r1 S1 p1 => ?_)
  refine po_if (Φ := fun p : Unit × gw_S => cOK p.2) (fun h8 => ?_) (fun h8 => ?_)
  · refine po_if (Φ := fun p : Unit × gw_S => cOK p.2) (fun h18_9 => ?_) (fun h18_9 => ?_)
    · refine po_b (Φ := fun p : Unit × gw_S => cOK p.2) (P := fun r U => cOK U) (po_ok_Player_nextAddress S1 p1) (fun r90 S90 p90 => ?_)
      refine po_n (Φ := fun p : Unit × gw_S => cOK p.2) (fun S93 E93 => ?_)
      exact (cOK_o E93 p90 (by omega))
    refine po_if (Φ := fun p : Unit × gw_S => cOK p.2) (fun h18_10 => ?_) (fun h18_10 => ?_)
    · refine po_b (Φ := fun p : Unit × gw_S => cOK p.2) (P := fun _ U => cOK U) (po_ok_Player_callAddress hj S1 p1) (fun _ S101 p101 => ?_)
      exact p101
    refine po_if (Φ := fun p : Unit × gw_S => cOK p.2) (fun h18_11 => ?_) (fun h18_11 => ?_)
    · refine po_b (Φ := fun p : Unit × gw_S => cOK p.2) (P := fun _ U => cOK U) (po_ok_Player_comeBack hj S1 p1) (fun _ S109 p109 => ?_)
      exact p109
    refine po_if (Φ := fun p : Unit × gw_S => cOK p.2) (fun h18_12 => ?_) (fun h18_12 => ?_)
    · refine po_b (Φ := fun p : Unit × gw_S => cOK p.2) (P := fun _ U => cOK U) (po_ok_Player_loop S1 p1) (fun _ S116 p116 => ?_)
      exact p116
    refine po_if (Φ := fun p : Unit × gw_S => cOK p.2) (fun h18_13 => ?_) (fun h18_13 => ?_)
    · refine po_b (Φ := fun p : Unit × gw_S => cOK p.2) (P := fun _ U => cOK U) (po_ok_Player_jumpIf hj S1 p1) (fun _ S124 p124 => ?_)
      exact p124
    refine po_if (Φ := fun p : Unit × gw_S => cOK p.2) (fun h18_14 => ?_) (fun h18_14 => ?_)
    · refine po_n (Φ := fun p : Unit × gw_S => cOK p.2) (fun S132 E132 => ?_)
      exact (cOK_o E132 p1 (by omega))
    refine po_if (Φ := fun p : Unit × gw_S => cOK p.2) (fun h18_15 => ?_) (fun h18_15 => ?_)
    · refine po_b (Φ := fun p : Unit × gw_S => cOK p.2) (P := fun _ U => cOK U) (po_ok_Player_end S1 p1) (fun _ S139 p139 => ?_)
      exact p139
    refine po_if (Φ := fun p : Unit × gw_S => cOK p.2) (fun h18_16 => ?_) (fun h18_16 => ?_)
    · refine po_b (Φ := fun p : Unit × gw_S => cOK p.2) (P := fun _ U => cOK U) (po_ok_Player_startOther S1 p1) (fun _ S146 p146 => ?_)
      exact p146
    refine po_if (Φ := fun p : Unit × gw_S => cOK p.2) (fun h18_17 => ?_) (fun h18_17 => ?_)
    · refine po_b (Φ := fun p : Unit × gw_S => cOK p.2) (P := fun _ U => cOK U) (po_ok_Player_askOfEach hj S1 p1) (fun _ S154 p154 => ?_)
      exact p154
    refine po_if (Φ := fun p : Unit × gw_S => cOK p.2) (fun h18_18 => ?_) (fun h18_18 => ?_)
    · refine po_b (Φ := fun p : Unit × gw_S => cOK p.2) (P := fun _ U => cOK U) (po_ok_Player_handlePages S1 r1 p1) (fun _ S162 p162 => ?_)
      exact p162
    refine po_if (Φ := fun p : Unit × gw_S => cOK p.2) (fun h18_19 => ?_) (fun h18_19 => ?_)
    · refine po_b (Φ := fun p : Unit × gw_S => cOK p.2) (P := fun _ U => cOK U) (po_ok_Player_handlePages S1 r1 p1) (fun _ S162 p162 => ?_)
      exact p162
    refine po_if (Φ := fun p : Unit × gw_S => cOK p.2) (fun h18_20 => ?_) (fun h18_20 => ?_)
    · refine po_b (Φ := fun p : Unit × gw_S => cOK p.2) (P := fun _ U => cOK U) (po_ok_Player_handlePages S1 r1 p1) (fun _ S162 p162 => ?_)
      exact p162
    refine po_if (Φ := fun p : Unit × gw_S => cOK p.2) (fun h18_21 => ?_) (fun h18_21 => ?_)
    · refine po_b (Φ := fun p : Unit × gw_S => cOK p.2) (P := fun _ U => cOK U) (po_ok_Player_handlePages S1 r1 p1) (fun _ S162 p162 => ?_)
      exact p162
    refine po_if (Φ := fun p : Unit × gw_S => cOK p.2) (fun h18_22 => ?_) (fun h18_22 => ?_)
    · refine po_b (Φ := fun p : Unit × gw_S => cOK p.2) (P := fun _ U => cOK U) (po_ok_Player_draw S1 p1) (fun _ S169 p169 => ?_)
      exact p169
    refine po_b (Φ := fun p : Unit × gw_S => cOK p.2) (P := fun _ U => cOK U) (po_ok_Player_fail hj S1 (5 : Int32) p1) (fun _ S178 p178 => ?_)
    exact p178
  · refine po_b (Φ := fun p : Unit × gw_S => cOK p.2) (P := fun _ U => cOK U) (po_ok_Player_compute S1 r1 p1) (fun _ S13 p13 => ?_)
    exact p13
noncomputable def fl_Player_takeTurn_18   (j : Nat) (a2 : Int32) (n : Nat) : gw_S → Int32 → Int32 → Int32 × gw_S := gw_L2 (fun self S x3 x4 => (if a2 ≤ x4 then (gw_n (gw_u S (j + 14) 2 (S 1 4)) fun S50 => (x3, S50)) else (if (S 1 5) = 0 then (gw_n (gw_u S (j + 14) 2 (S 1 4)) fun S50 => (x3, S50)) else (gw_b (f_Player_doInstruction j S) fun _ S33 => (self S33 (x3 + (1 : Int32)) (x4 + (1 : Int32))))))) (fun S _ _ => (0, S)) n
set_option maxHeartbeats 4000000 in
set_option maxRecDepth 100000 in
theorem l_Player_takeTurn_18 {X : gx_M} {A : Nat → Prop}  (F : gw_F X l prog_6_method_2_code 5 (some .int) "StageMachine$Player" gTs (gw_rm 18) D gCl (gTys cI cB cC cZ) 46 ad A) {j : Nat} (hj : j < 16) (a2 : Int32) : ∀ (n : Nat) (S : gw_S) (x3 x4 : Int32), 0 < n → (a2 : Int32).toInt - x4.toInt < (n : Int) → cOK S → gw_V X (gw_P D gCl 46 ad (cE ad cI cB cC)) A 5 gw_rI S 18 [(0, .ref (ad 1)), (1, .ref (ad (j + 14))), (2, .int a2), (3, .int x3), (4, .int x4)] [] (fl_Player_takeTurn_18 j a2 n S x3 x4) := by
  intro n
  induction n with
  | zero => intro S x3 x4 hn hf hf_ok; exact absurd hn (Nat.lt_irrefl 0)
  | succ n ih =>
    intro S x3 x4 hn hf hf_ok
    refine gw_iload (pc := 18) F 4 d_Player_takeTurn_18 rfl ?_
    refine gw_iload_n (pc := 20) F 2 d_Player_takeTurn_20 rfl rfl ?_
    refine gw_icmp_geS (pc := 21) (tgt := 45) F d_Player_takeTurn_21 (by decide) (fun h21 => ?_) (fun h21 => ?_)
    · refine gw_aload_n (pc := 45) F 1 d_Player_takeTurn_45 rfl rfl ?_
      refine gw_aload_n (pc := 46) F 0 d_Player_takeTurn_46 rfl rfl ?_
      refine cg_Player_at (pc := 47) F tw_143 d_Player_takeTurn_47 ?_
      refine cpN_Channel_address (pc := 50) F hj tw_108 d_Player_takeTurn_50 ?_
      refine gw_nS (fun S50 E50 => ?_)
      refine gw_iload_n (pc := 53) F 3 d_Player_takeTurn_53 rfl rfl ?_
      exact gw_iret (pc := 54) F d_Player_takeTurn_54
    · refine gw_aload_n (pc := 24) F 0 d_Player_takeTurn_24 rfl rfl ?_
      refine cg_Player_goingOn (pc := 25) F tw_144 d_Player_takeTurn_25 ?_
      refine gw_if_eqS (pc := 28) (tgt := 45) F d_Player_takeTurn_28 (by decide) (fun h28 => ?_) (fun h28 => ?_)
      · refine gw_aload_n (pc := 45) F 1 d_Player_takeTurn_45 rfl rfl ?_
        refine gw_aload_n (pc := 46) F 0 d_Player_takeTurn_46 rfl rfl ?_
        refine cg_Player_at (pc := 47) F tw_143 d_Player_takeTurn_47 ?_
        refine cpN_Channel_address (pc := 50) F hj tw_108 d_Player_takeTurn_50 ?_
        refine gw_nS (fun S50 E50 => ?_)
        refine gw_iload_n (pc := 53) F 3 d_Player_takeTurn_53 rfl rfl ?_
        exact gw_iret (pc := 54) F d_Player_takeTurn_54
      · refine gw_aload_n (pc := 31) F 0 d_Player_takeTurn_31 rfl rfl ?_
        refine gw_aload_n (pc := 32) F 1 d_Player_takeTurn_32 rfl rfl ?_
        refine gw_cV (pc := 33) (As := [.ref (ad (j + 14))]) (rest := []) F (c_Player_doInstruction (gw_FJ F) hj S hf_ok) cw_Player_doInstruction cv_Player_doInstruction tw_223 rfl (by decide) (by decide) (by decide) cE_Player rfl rfl rfl rfl (Nat.le_of_ble_eq_true rfl) d_Player_takeTurn_33 (gw_bV (P := fun _ U => cOK U) (po_ok_Player_doInstruction hj S hf_ok) (fun _ S33 p33 => ?_))
        refine gw_iinc (pc := 36) (v := (x3 + (1 : Int32))) (lv' := [(3, .int (x3 + (1 : Int32))), (0, .ref (ad 1)), (1, .ref (ad (j + 14))), (2, .int a2), (4, .int x4)]) F 3 d_Player_takeTurn_36 rfl (congrArg (HAdd.hAdd x3) (by decide)) (by decide) rfl ?_
        refine gw_iinc (pc := 39) (v := (x4 + (1 : Int32))) (lv' := [(4, .int (x4 + (1 : Int32))), (3, .int (x3 + (1 : Int32))), (0, .ref (ad 1)), (1, .ref (ad (j + 14))), (2, .int a2)]) F 4 d_Player_takeTurn_39 rfl (congrArg (HAdd.hAdd x4) (by decide)) (by decide) rfl ?_
        refine gw_goto (pc := 42) (tgt := 18) F d_Player_takeTurn_42 (by decide) ?_
        refine gw_lvs (lv' := [(0, .ref (ad 1)), (1, .ref (ad (j + 14))), (2, .int a2), (3, .int (x3 + (1 : Int32))), (4, .int (x4 + (1 : Int32)))]) [2, 3, 4, 1, 0] rfl ?_
        exact ih S33 (x3 + (1 : Int32)) (x4 + (1 : Int32)) (gw_stp h21 hf).1 (gw_stp h21 hf).2.1 p33
noncomputable def f_Player_takeTurn  (j : Nat) (S : gw_S) (a2 : Int32) : Int32 × gw_S := (gw_n (gw_u S 1 4 (S (j + 14) 2)) fun S5 => gw_n (gw_u S5 1 5 (1 : Int32)) fun S10 => (fl_Player_takeTurn_18 j a2 (gw_fu ((a2 : Int32).toInt - ((0 : Int32) : Int32).toInt)) S10 (0 : Int32) (0 : Int32)))
set_option maxHeartbeats 4000000 in
set_option maxRecDepth 100000 in
theorem c_Player_takeTurn (hJ : gw_J 46 ad)  {j : Nat} (hj : j < 16) (S : gw_S) (a2 : Int32) (hf_ok : cOK S) : gw_M l y_Player_takeTurn prog_6_method_2_code 5 (some .int) gTs (gw_rm 18) D gCl (gTys cI cB cC cZ) 46 ad (cE ad cI cB cC) gw_rI [.ref (ad 1), .ref (ad (j + 14)), .int a2] S (f_Player_takeTurn j S a2) := by
  refine gw_start gTs_ok (plainFor_of_name (by decide)) hJ (Nat.le_of_ble_eq_true rfl) (fun X A F => ?_)
  refine gw_lve (lv' := [(0, .ref (ad 1)), (1, .ref (ad (j + 14))), (2, .int a2)]) rfl ?_
  unfold f_Player_takeTurn
  refine gw_aload_n (pc := 0) F 0 d_Player_takeTurn_0 rfl rfl ?_
  refine gw_aload_n (pc := 1) F 1 d_Player_takeTurn_1 rfl rfl ?_
  refine cgN_Channel_address (pc := 2) F hj tw_108 d_Player_takeTurn_2 ?_
  refine cp_Player_at (pc := 5) F tw_143 d_Player_takeTurn_5 ?_
  refine gw_nS (fun S5 E5 => ?_)
  refine gw_aload_n (pc := 8) F 0 d_Player_takeTurn_8 rfl rfl ?_
  refine gw_iconst (pc := 9) (v := (1 : Int32)) F d_Player_takeTurn_9 (by decide) ?_
  refine cp_Player_goingOn (pc := 10) F tw_144 d_Player_takeTurn_10 rfl rfl ?_
  refine gw_nS (fun S10 E10 => ?_)
  refine gw_iconst (pc := 13) (v := (0 : Int32)) F d_Player_takeTurn_13 (by decide) ?_
  refine gw_istore_n (pc := 14) (lv' := [(3, .int (0 : Int32)), (0, .ref (ad 1)), (1, .ref (ad (j + 14))), (2, .int a2)]) F d_Player_takeTurn_14 rfl (by decide) rfl ?_
  refine gw_iconst (pc := 15) (v := (0 : Int32)) F d_Player_takeTurn_15 (by decide) ?_
  refine gw_istore (pc := 16) (lv' := [(4, .int (0 : Int32)), (3, .int (0 : Int32)), (0, .ref (ad 1)), (1, .ref (ad (j + 14))), (2, .int a2)]) F d_Player_takeTurn_16 (by decide) rfl ?_
  refine gw_lvs (lv' := [(0, .ref (ad 1)), (1, .ref (ad (j + 14))), (2, .int a2), (3, .int (0 : Int32)), (4, .int (0 : Int32))]) [2, 3, 4, 1, 0] rfl ?_
  exact l_Player_takeTurn_18  F hj a2  (gw_fu ((a2 : Int32).toInt - ((0 : Int32) : Int32).toInt)) S10 (0 : Int32) (0 : Int32) (gw_fu_pos _) (gw_fu_lt _) (cOK_o E10 (cOK_o E5 hf_ok (by omega)) (by omega))
set_option maxHeartbeats 4000000 in
set_option maxRecDepth 100000 in
theorem pl_ok_Player_takeTurn_18  {j : Nat} (hj : j < 16) (a2 : Int32) : ∀ (n : Nat) (S : gw_S) (x3 x4 : Int32), 0 < n → (a2 : Int32).toInt - x4.toInt < (n : Int) → cOK S → cOK (fl_Player_takeTurn_18 j a2 n S x3 x4).2 := by
  intro n
  induction n with
  | zero => intro S x3 x4 hn hf hf_ok; exact absurd hn (Nat.lt_irrefl 0)
  | succ n ih =>
    intro S x3 x4 hn hf hf_ok
    refine po_if (Φ := fun p : Int32 × gw_S => cOK p.2) (fun h21 => ?_) (fun h21 => ?_)
    · refine po_n (Φ := fun p : Int32 × gw_S => cOK p.2) (fun S50 E50 => ?_)
      exact (cOK_o E50 hf_ok (by omega))
    · refine po_if (Φ := fun p : Int32 × gw_S => cOK p.2) (fun h28 => ?_) (fun h28 => ?_)
      · refine po_n (Φ := fun p : Int32 × gw_S => cOK p.2) (fun S50 E50 => ?_)
        exact (cOK_o E50 hf_ok (by omega))
      · refine po_b (Φ := fun p : Int32 × gw_S => cOK p.2) (P := fun _ U => cOK U) (po_ok_Player_doInstruction hj S hf_ok) (fun _ S33 p33 => ?_)
        exact ih S33 (x3 + (1 : Int32)) (x4 + (1 : Int32)) (gw_stp h21 hf).1 (gw_stp h21 hf).2.1 p33
set_option maxHeartbeats 4000000 in
set_option maxRecDepth 100000 in
theorem po_ok_Player_takeTurn  {j : Nat} (hj : j < 16) (S : gw_S) (a2 : Int32) (hf_ok : cOK S) : cOK (f_Player_takeTurn j S a2).2 := by
  unfold f_Player_takeTurn
  refine po_n (Φ := fun p : Int32 × gw_S => cOK p.2) (fun S5 E5 => ?_)
  refine po_n (Φ := fun p : Int32 × gw_S => cOK p.2) (fun S10 E10 => ?_)
  exact pl_ok_Player_takeTurn_18 hj a2  (gw_fu ((a2 : Int32).toInt - ((0 : Int32) : Int32).toInt)) S10 (0 : Int32) (0 : Int32) (gw_fu_pos _) (gw_fu_lt _) (cOK_o E10 (cOK_o E5 hf_ok (by omega)) (by omega))
noncomputable def fl_SM_frame_69   (a1 : Int32) (n : Nat) : gw_S → Int32 → Int32 → Int32 × gw_S := gw_L2 (fun self S x2 x3 => (if (16 : Int32) ≤ x3 then ((x2, S)) else (gw_b (f_Channel_isRunning (x3 : Int32).toNatClampNeg S) fun r84 S84 => if r84 = 0 then (self S84 x2 (x3 + (1 : Int32))) else (gw_b (f_Player_takeTurn (x3 : Int32).toNatClampNeg S84 a1) fun r109 S109 => gw_n (gw_u S109 0 2 ((S84 0 2) + r109)) fun S113 => (self S113 (x2 + (1 : Int32)) (x3 + (1 : Int32))))))) (fun S _ _ => (0, S)) n
set_option maxHeartbeats 4000000 in
set_option maxRecDepth 100000 in
theorem l_SM_frame_69 {X : gx_M} {A : Nat → Prop}  (F : gw_F X l prog_1_method_7_code 4 (some .int) "StageMachine" gTs (gw_rm 19) D gCl (gTys cI cB cC cZ) 46 ad A) (a1 : Int32) : ∀ (n : Nat) (S : gw_S) (x2 x3 : Int32), 0 < n → ((16 : Int32) : Int32).toInt - x3.toInt < (n : Int) → 0 ≤ x3.toInt → cOK S → gw_V X (gw_P D gCl 46 ad (cE ad cI cB cC)) A 4 gw_rI S 69 [(0, .ref (ad 0)), (1, .int a1), (2, .int x2), (3, .int x3)] [] (fl_SM_frame_69 a1 n S x2 x3) := by
  intro n
  induction n with
  | zero => intro S x2 x3 hn hf h0 hf_ok; exact absurd hn (Nat.lt_irrefl 0)
  | succ n ih =>
    intro S x2 x3 hn hf h0 hf_ok
    refine gw_iload_n (pc := 69) F 3 d_SM_frame_69 rfl rfl ?_
    refine gw_bipush (pc := 70) (v := (16 : Int32)) F d_SM_frame_70 (by decide) ?_
    refine gw_icmp_geS (pc := 72) (tgt := 125) F d_SM_frame_72 (by decide) (fun h72 => ?_) (fun h72 => ?_)
    · refine gw_iload_n (pc := 125) F 2 d_SM_frame_125 rfl rfl ?_
      exact gw_iret (pc := 126) F d_SM_frame_126
    · refine gw_aload_n (pc := 75) F 0 d_SM_frame_75 rfl rfl ?_
      refine cg_SM_player (pc := 76) F tw_158 d_SM_frame_76 ?_
      refine cgN_Player_channels (pc := 79) F tw_140 d_SM_frame_79 ?_
      refine gw_iload_n (pc := 82) F 3 d_SM_frame_82 rfl rfl ?_
      refine cl_Chans (pc := 83) F (gw_inB (N := 16) (by decide) h72 h0) d_SM_frame_83 ?_
      refine gw_cV (pc := 84) (As := []) (rest := []) F (c_Channel_isRunning (gw_FJ F) (gw_inlt (gw_inB (N := 16) (by decide) h72 h0)) S) cw_Channel_isRunning cv_Channel_isRunning tw_215 rfl (by decide) (by decide) (chi_Channel (gw_inlt (gw_inB (N := 16) (by decide) h72 h0))) (cE_Channel (gw_inlt (gw_inB (N := 16) (by decide) h72 h0))) rfl rfl rfl rfl (Nat.le_of_ble_eq_true rfl) d_SM_frame_84 (gw_bI (P := fun r U => cOK U) (po_ok_Channel_isRunning (gw_inlt (gw_inB (N := 16) (by decide) h72 h0)) S hf_ok) (fun r84 S84 p84 => ?_))
      refine gw_if_eqS (pc := 87) (tgt := 119) F d_SM_frame_87 (by decide) (fun h87 => ?_) (fun h87 => ?_)
      · refine gw_iinc (pc := 119) (v := (x3 + (1 : Int32))) (lv' := [(3, .int (x3 + (1 : Int32))), (0, .ref (ad 0)), (1, .int a1), (2, .int x2)]) F 3 d_SM_frame_119 rfl (congrArg (HAdd.hAdd x3) (by decide)) (by decide) rfl ?_
        refine gw_goto (pc := 122) (tgt := 69) F d_SM_frame_122 (by decide) ?_
        refine gw_lvs (lv' := [(0, .ref (ad 0)), (1, .int a1), (2, .int x2), (3, .int (x3 + (1 : Int32)))]) [1, 2, 3, 0] rfl ?_
        exact ih S84 x2 (x3 + (1 : Int32)) (gw_stp h72 hf).1 (gw_stp h72 hf).2.1 (gw_stp0 h72 h0) p84
      · refine gw_aload_n (pc := 90) F 0 d_SM_frame_90 rfl rfl ?_
        refine gw_dup (pc := 91) F d_SM_frame_91 rfl ?_
        refine cg_SM_instructionsDone (pc := 92) F tw_160 d_SM_frame_92 ?_
        refine gw_aload_n (pc := 95) F 0 d_SM_frame_95 rfl rfl ?_
        refine cg_SM_player (pc := 96) F tw_158 d_SM_frame_96 ?_
        refine gw_aload_n (pc := 99) F 0 d_SM_frame_99 rfl rfl ?_
        refine cg_SM_player (pc := 100) F tw_158 d_SM_frame_100 ?_
        refine cgN_Player_channels (pc := 103) F tw_140 d_SM_frame_103 ?_
        refine gw_iload_n (pc := 106) F 3 d_SM_frame_106 rfl rfl ?_
        refine cl_Chans (pc := 107) F (gw_inB (N := 16) (by decide) h72 h0) d_SM_frame_107 ?_
        refine gw_iload_n (pc := 108) F 1 d_SM_frame_108 rfl rfl ?_
        refine gw_cV (pc := 109) (As := [.ref (ad ((x3 : Int32).toNatClampNeg + 14)), .int a1]) (rest := [.int (S84 0 2), .ref (ad 0)]) F (c_Player_takeTurn (gw_FJ F) (gw_inlt (gw_inB (N := 16) (by decide) h72 h0)) S84 a1 p84) cw_Player_takeTurn cv_Player_takeTurn tw_219 rfl (by decide) (by decide) (by decide) cE_Player rfl rfl rfl rfl (Nat.le_of_ble_eq_true rfl) d_SM_frame_109 (gw_bI (P := fun r U => cOK U) (po_ok_Player_takeTurn (gw_inlt (gw_inB (N := 16) (by decide) h72 h0)) S84 a1 p84) (fun r109 S109 p109 => ?_))
        refine gw_iadd (pc := 112) F d_SM_frame_112 ?_
        refine cp_SM_instructionsDone (pc := 113) F tw_160 d_SM_frame_113 ?_
        refine gw_nS (fun S113 E113 => ?_)
        refine gw_iinc (pc := 116) (v := (x2 + (1 : Int32))) (lv' := [(2, .int (x2 + (1 : Int32))), (0, .ref (ad 0)), (1, .int a1), (3, .int x3)]) F 2 d_SM_frame_116 rfl (congrArg (HAdd.hAdd x2) (by decide)) (by decide) rfl ?_
        refine gw_iinc (pc := 119) (v := (x3 + (1 : Int32))) (lv' := [(3, .int (x3 + (1 : Int32))), (2, .int (x2 + (1 : Int32))), (0, .ref (ad 0)), (1, .int a1)]) F 3 d_SM_frame_119 rfl (congrArg (HAdd.hAdd x3) (by decide)) (by decide) rfl ?_
        refine gw_goto (pc := 122) (tgt := 69) F d_SM_frame_122 (by decide) ?_
        refine gw_lvs (lv' := [(0, .ref (ad 0)), (1, .int a1), (2, .int (x2 + (1 : Int32))), (3, .int (x3 + (1 : Int32)))]) [2, 3, 1, 0] rfl ?_
        exact ih S113 (x2 + (1 : Int32)) (x3 + (1 : Int32)) (gw_stp h72 hf).1 (gw_stp h72 hf).2.1 (gw_stp0 h72 h0) (cOK_o E113 p109 (by omega))
noncomputable def fl_SM_frame_41   (a1 : Int32) (n : Nat) : gw_S → Int32 → Int32 × gw_S := gw_L1 (fun self S x2 => (if (16 : Int32) ≤ x2 then (fl_SM_frame_69 a1 (gw_fu (((16 : Int32) : Int32).toInt - ((0 : Int32) : Int32).toInt)) S (0 : Int32) (0 : Int32)) else (gw_b (f_Channel_settleAsked (x2 : Int32).toNatClampNeg S) fun _ S56 => (self S56 (x2 + (1 : Int32)))))) (fun S _ => (0, S)) n
set_option maxHeartbeats 4000000 in
set_option maxRecDepth 100000 in
theorem l_SM_frame_41 {X : gx_M} {A : Nat → Prop}  (F : gw_F X l prog_1_method_7_code 4 (some .int) "StageMachine" gTs (gw_rm 19) D gCl (gTys cI cB cC cZ) 46 ad A) (a1 : Int32) : ∀ (n : Nat) (S : gw_S) (x2 : Int32), 0 < n → ((16 : Int32) : Int32).toInt - x2.toInt < (n : Int) → 0 ≤ x2.toInt → cOK S → gw_V X (gw_P D gCl 46 ad (cE ad cI cB cC)) A 4 gw_rI S 41 [(0, .ref (ad 0)), (1, .int a1), (2, .int x2)] [] (fl_SM_frame_41 a1 n S x2) := by
  intro n
  induction n with
  | zero => intro S x2 hn hf h0 hf_ok; exact absurd hn (Nat.lt_irrefl 0)
  | succ n ih =>
    intro S x2 hn hf h0 hf_ok
    refine gw_iload_n (pc := 41) F 2 d_SM_frame_41 rfl rfl ?_
    refine gw_bipush (pc := 42) (v := (16 : Int32)) F d_SM_frame_42 (by decide) ?_
    refine gw_icmp_geS (pc := 44) (tgt := 65) F d_SM_frame_44 (by decide) (fun h44 => ?_) (fun h44 => ?_)
    · refine gw_iconst (pc := 65) (v := (0 : Int32)) F d_SM_frame_65 (by decide) ?_
      refine gw_istore_n (pc := 66) (lv' := [(2, .int (0 : Int32)), (0, .ref (ad 0)), (1, .int a1)]) F d_SM_frame_66 rfl (by decide) rfl ?_
      refine gw_iconst (pc := 67) (v := (0 : Int32)) F d_SM_frame_67 (by decide) ?_
      refine gw_istore_n (pc := 68) (lv' := [(3, .int (0 : Int32)), (2, .int (0 : Int32)), (0, .ref (ad 0)), (1, .int a1)]) F d_SM_frame_68 rfl (by decide) rfl ?_
      refine gw_lvs (lv' := [(0, .ref (ad 0)), (1, .int a1), (2, .int (0 : Int32)), (3, .int (0 : Int32))]) [2, 3, 1, 0] rfl ?_
      exact l_SM_frame_69  F a1  (gw_fu (((16 : Int32) : Int32).toInt - ((0 : Int32) : Int32).toInt)) S (0 : Int32) (0 : Int32) (gw_fu_pos _) (gw_fu_lt _) (by decide) hf_ok
    · refine gw_aload_n (pc := 47) F 0 d_SM_frame_47 rfl rfl ?_
      refine cg_SM_player (pc := 48) F tw_158 d_SM_frame_48 ?_
      refine cgN_Player_channels (pc := 51) F tw_140 d_SM_frame_51 ?_
      refine gw_iload_n (pc := 54) F 2 d_SM_frame_54 rfl rfl ?_
      refine cl_Chans (pc := 55) F (gw_inB (N := 16) (by decide) h44 h0) d_SM_frame_55 ?_
      refine gw_cV (pc := 56) (As := []) (rest := []) F (c_Channel_settleAsked (gw_FJ F) (gw_inlt (gw_inB (N := 16) (by decide) h44 h0)) S) cw_Channel_settleAsked cv_Channel_settleAsked tw_211 rfl (by decide) (by decide) (chi_Channel (gw_inlt (gw_inB (N := 16) (by decide) h44 h0))) (cE_Channel (gw_inlt (gw_inB (N := 16) (by decide) h44 h0))) rfl rfl rfl rfl (Nat.le_of_ble_eq_true rfl) d_SM_frame_56 (gw_bV (P := fun _ U => cOK U) (po_ok_Channel_settleAsked (gw_inlt (gw_inB (N := 16) (by decide) h44 h0)) S hf_ok) (fun _ S56 p56 => ?_))
      refine gw_iinc (pc := 59) (v := (x2 + (1 : Int32))) (lv' := [(2, .int (x2 + (1 : Int32))), (0, .ref (ad 0)), (1, .int a1)]) F 2 d_SM_frame_59 rfl (congrArg (HAdd.hAdd x2) (by decide)) (by decide) rfl ?_
      refine gw_goto (pc := 62) (tgt := 41) F d_SM_frame_62 (by decide) ?_
      refine gw_lvs (lv' := [(0, .ref (ad 0)), (1, .int a1), (2, .int (x2 + (1 : Int32)))]) [1, 2, 0] rfl ?_
      exact ih S56 (x2 + (1 : Int32)) (gw_stp h44 hf).1 (gw_stp h44 hf).2.1 (gw_stp0 h44 h0) p56
noncomputable def f_SM_frame   (S : gw_S) (a1 : Int32) : Int32 × gw_S := (if a1 < (1 : Int32) then (((-1 : Int32), S)) else (if a1 ≤ (500 : Int32) then (gw_n (gw_u S 0 1 ((S 0 1) + (1 : Int32))) fun S21 => gw_n (gw_u S21 0 2 (0 : Int32)) fun S26 => gw_b (f_Painter_forgetCounts S26) fun _ S36 => (fl_SM_frame_41 a1 (gw_fu (((16 : Int32) : Int32).toInt - ((0 : Int32) : Int32).toInt)) S36 (0 : Int32))) else (((-1 : Int32), S))))
set_option maxHeartbeats 4000000 in
set_option maxRecDepth 100000 in
theorem c_SM_frame (hJ : gw_J 46 ad)   (S : gw_S) (a1 : Int32) (hf_ok : cOK S) : gw_M l y_SM_frame prog_1_method_7_code 4 (some .int) gTs (gw_rm 19) D gCl (gTys cI cB cC cZ) 46 ad (cE ad cI cB cC) gw_rI [.ref (ad 0), .int a1] S (f_SM_frame S a1) := by
  refine gw_start gTs_ok (plainFor_of_name (by decide)) hJ (Nat.le_of_ble_eq_true rfl) (fun X A F => ?_)
  refine gw_lve (lv' := [(0, .ref (ad 0)), (1, .int a1)]) rfl ?_
  unfold f_SM_frame
  refine gw_iload_n (pc := 0) F 1 d_SM_frame_0 rfl rfl ?_
  refine gw_iconst (pc := 1) (v := (1 : Int32)) F d_SM_frame_1 (by decide) ?_
  refine gw_icmp_ltS (pc := 2) (tgt := 12) F d_SM_frame_2 (by decide) (fun h2 => ?_) (fun h2 => ?_)
  · refine gw_iconst (pc := 12) (v := (-1 : Int32)) F d_SM_frame_12 (by decide) ?_
    exact gw_iret (pc := 13) F d_SM_frame_13
  · refine gw_iload_n (pc := 5) F 1 d_SM_frame_5 rfl rfl ?_
    refine gw_sipush (pc := 6) (v := (500 : Int32)) F d_SM_frame_6 (by decide) ?_
    refine gw_icmp_leS (pc := 9) (tgt := 14) F d_SM_frame_9 (by decide) (fun h9 => ?_) (fun h9 => ?_)
    · refine gw_aload_n (pc := 14) F 0 d_SM_frame_14 rfl rfl ?_
      refine gw_dup (pc := 15) F d_SM_frame_15 rfl ?_
      refine cg_SM_frames (pc := 16) F tw_159 d_SM_frame_16 ?_
      refine gw_iconst (pc := 19) (v := (1 : Int32)) F d_SM_frame_19 (by decide) ?_
      refine gw_iadd (pc := 20) F d_SM_frame_20 ?_
      refine cp_SM_frames (pc := 21) F tw_159 d_SM_frame_21 ?_
      refine gw_nS (fun S21 E21 => ?_)
      refine gw_aload_n (pc := 24) F 0 d_SM_frame_24 rfl rfl ?_
      refine gw_iconst (pc := 25) (v := (0 : Int32)) F d_SM_frame_25 (by decide) ?_
      refine cp_SM_instructionsDone (pc := 26) F tw_160 d_SM_frame_26 ?_
      refine gw_nS (fun S26 E26 => ?_)
      refine gw_aload_n (pc := 29) F 0 d_SM_frame_29 rfl rfl ?_
      refine cg_SM_player (pc := 30) F tw_158 d_SM_frame_30 ?_
      refine cgN_Player_painter (pc := 33) F tw_142 d_SM_frame_33 ?_
      refine gw_cV (pc := 36) (As := []) (rest := []) F (c_Painter_forgetCounts (gw_FJ F) S26) cw_Painter_forgetCounts cv_Painter_forgetCounts tw_207 rfl (by decide) (by decide) (by decide) cE_Painter rfl rfl rfl rfl (Nat.le_of_ble_eq_true rfl) d_SM_frame_36 (gw_bV (P := fun _ U => cOK U) (po_ok_Painter_forgetCounts S26 (cOK_o E26 (cOK_o E21 hf_ok (by omega)) (by omega))) (fun _ S36 p36 => ?_))
      refine gw_iconst (pc := 39) (v := (0 : Int32)) F d_SM_frame_39 (by decide) ?_
      refine gw_istore_n (pc := 40) (lv' := [(2, .int (0 : Int32)), (0, .ref (ad 0)), (1, .int a1)]) F d_SM_frame_40 rfl (by decide) rfl ?_
      refine gw_lvs (lv' := [(0, .ref (ad 0)), (1, .int a1), (2, .int (0 : Int32))]) [1, 2, 0] rfl ?_
      exact l_SM_frame_41  F a1  (gw_fu (((16 : Int32) : Int32).toInt - ((0 : Int32) : Int32).toInt)) S36 (0 : Int32) (gw_fu_pos _) (gw_fu_lt _) (by decide) p36
    · refine gw_iconst (pc := 12) (v := (-1 : Int32)) F d_SM_frame_12 (by decide) ?_
      exact gw_iret (pc := 13) F d_SM_frame_13
set_option maxHeartbeats 4000000 in
set_option maxRecDepth 100000 in
theorem pl_ok_SM_frame_69  (a1 : Int32) : ∀ (n : Nat) (S : gw_S) (x2 x3 : Int32), 0 < n → ((16 : Int32) : Int32).toInt - x3.toInt < (n : Int) → 0 ≤ x3.toInt → cOK S → cOK (fl_SM_frame_69 a1 n S x2 x3).2 := by
  intro n
  induction n with
  | zero => intro S x2 x3 hn hf h0 hf_ok; exact absurd hn (Nat.lt_irrefl 0)
  | succ n ih =>
    intro S x2 x3 hn hf h0 hf_ok
    refine po_if (Φ := fun p : Int32 × gw_S => cOK p.2) (fun h72 => ?_) (fun h72 => ?_)
    · exact hf_ok
    · refine po_b (Φ := fun p : Int32 × gw_S => cOK p.2) (P := fun r U => cOK U) (po_ok_Channel_isRunning (gw_inlt (gw_inB (N := 16) (by decide) h72 h0)) S hf_ok) (fun r84 S84 p84 => ?_)
      refine po_if (Φ := fun p : Int32 × gw_S => cOK p.2) (fun h87 => ?_) (fun h87 => ?_)
      · exact ih S84 x2 (x3 + (1 : Int32)) (gw_stp h72 hf).1 (gw_stp h72 hf).2.1 (gw_stp0 h72 h0) p84
      · refine po_b (Φ := fun p : Int32 × gw_S => cOK p.2) (P := fun r U => cOK U) (po_ok_Player_takeTurn (gw_inlt (gw_inB (N := 16) (by decide) h72 h0)) S84 a1 p84) (fun r109 S109 p109 => ?_)
        refine po_n (Φ := fun p : Int32 × gw_S => cOK p.2) (fun S113 E113 => ?_)
        exact ih S113 (x2 + (1 : Int32)) (x3 + (1 : Int32)) (gw_stp h72 hf).1 (gw_stp h72 hf).2.1 (gw_stp0 h72 h0) (cOK_o E113 p109 (by omega))
set_option maxHeartbeats 4000000 in
set_option maxRecDepth 100000 in
theorem pl_ok_SM_frame_41  (a1 : Int32) : ∀ (n : Nat) (S : gw_S) (x2 : Int32), 0 < n → ((16 : Int32) : Int32).toInt - x2.toInt < (n : Int) → 0 ≤ x2.toInt → cOK S → cOK (fl_SM_frame_41 a1 n S x2).2 := by
  intro n
  induction n with
  | zero => intro S x2 hn hf h0 hf_ok; exact absurd hn (Nat.lt_irrefl 0)
  | succ n ih =>
    intro S x2 hn hf h0 hf_ok
    refine po_if (Φ := fun p : Int32 × gw_S => cOK p.2) (fun h44 => ?_) (fun h44 => ?_)
    · exact pl_ok_SM_frame_69 a1  (gw_fu (((16 : Int32) : Int32).toInt - ((0 : Int32) : Int32).toInt)) S (0 : Int32) (0 : Int32) (gw_fu_pos _) (gw_fu_lt _) (by decide) hf_ok
    · refine po_b (Φ := fun p : Int32 × gw_S => cOK p.2) (P := fun _ U => cOK U) (po_ok_Channel_settleAsked (gw_inlt (gw_inB (N := 16) (by decide) h44 h0)) S hf_ok) (fun _ S56 p56 => ?_)
      exact ih S56 (x2 + (1 : Int32)) (gw_stp h44 hf).1 (gw_stp h44 hf).2.1 (gw_stp0 h44 h0) p56
set_option maxHeartbeats 4000000 in
set_option maxRecDepth 100000 in
theorem po_ok_SM_frame   (S : gw_S) (a1 : Int32) (hf_ok : cOK S) : cOK (f_SM_frame S a1).2 := by
  unfold f_SM_frame
  refine po_if (Φ := fun p : Int32 × gw_S => cOK p.2) (fun h2 => ?_) (fun h2 => ?_)
  · exact hf_ok
  · refine po_if (Φ := fun p : Int32 × gw_S => cOK p.2) (fun h9 => ?_) (fun h9 => ?_)
    · refine po_n (Φ := fun p : Int32 × gw_S => cOK p.2) (fun S21 E21 => ?_)
      refine po_n (Φ := fun p : Int32 × gw_S => cOK p.2) (fun S26 E26 => ?_)
      refine po_b (Φ := fun p : Int32 × gw_S => cOK p.2) (P := fun _ U => cOK U) (po_ok_Painter_forgetCounts S26 (cOK_o E26 (cOK_o E21 hf_ok (by omega)) (by omega))) (fun _ S36 p36 => ?_)
      exact pl_ok_SM_frame_41 a1  (gw_fu (((16 : Int32) : Int32).toInt - ((0 : Int32) : Int32).toInt)) S36 (0 : Int32) (gw_fu_pos _) (gw_fu_lt _) (by decide) p36
    · exact hf_ok
end
