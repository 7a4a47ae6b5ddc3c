section
variable {l : Launch} {D : va_G} {cI cB cC cZ : ClassId} {ad : Nat → Nat}
noncomputable def f_Model_instruct   (S : gw_S)  : Unit × gw_S := (gw_b (f_Model_next S) fun r1 S1 => gw_n (gw_u S1 0 14 ((S1 0 14) + (1 : Int32))) fun S12 => (if r1 = 9 then (gw_b (f_Model_place S12) fun r90 S90 => gw_n (gw_u S90 0 18 r90) fun S93 => ((), S93)) else (if r1 = 10 then (gw_b (f_Model_call S12) fun _ S100 => ((), S100)) else (if r1 = 11 then (gw_b (f_Model_back S12) fun _ S107 => ((), S107)) else (if r1 = 12 then (gw_b (f_Model_loop S12) fun _ S114 => ((), S114)) else (if r1 = 13 then (gw_b (f_Model_when S12) fun _ S121 => ((), S121)) else (if r1 = 14 then (gw_n (gw_u S12 0 20 (0 : Int32)) fun S129 => ((), S129)) else (if r1 = 15 then (gw_n (gw_u S12 0 18 (-1 : Int32)) fun S137 => gw_n (gw_u S137 0 20 (0 : Int32)) fun S142 => ((), S142)) else (if r1 = 16 then (gw_b (f_Model_start S12) fun _ S149 => ((), S149)) else (if r1 = 17 then (gw_b (f_Model_each S12) fun _ S156 => ((), S156)) else (if r1 = 18 then (gw_b (f_Model_page S12) fun r164 S164 => gw_n (gw_u S164 0 4 r164) fun S167 => ((), S167)) else (if r1 = 19 then (gw_b (f_Model_fill S12) fun _ S174 => ((), S174)) else (if r1 = 20 then (gw_b (f_Model_copy S12) fun _ S181 => ((), S181)) else (if r1 = 21 then (gw_b (f_Model_page S12) fun r189 S189 => gw_n (gw_u S189 0 5 r189) fun S192 => ((), S192)) else (if r1 = 22 then (gw_b (f_Model_draw S12) fun _ S199 => ((), S199)) else (if (9 : Int32) ≤ r1 then (gw_b (f_Model_fails S12 (5 : Int32)) fun _ S221 => ((), S221)) else (gw_b (f_Model_reckon S12 r1) fun _ S213 => ((), S213))))))))))))))))))
set_option maxHeartbeats 4000000 in
set_option maxRecDepth 100000 in
theorem c_Model_instruct (hJ : gw_J 20 ad)   (S : gw_S)  (hf_at : vp_in (S 0 18) 1024) (hf_ok : rOK S) : gw_M l y_Model_instruct prog_8_method_27_code 2 none gTs (gw_rm 6) D gCl (gTys cI cB cC cZ) 20 ad (rE ad cI cB cZ) gw_rV [.ref (ad 0)] S (f_Model_instruct S) := by
  refine gw_start gTs_ok (plainFor_of_name (by decide)) hJ (Nat.le_of_ble_eq_true rfl) (fun X A F => ?_)
  refine gw_lve (lv' := [(0, .ref (ad 0))]) rfl ?_
  unfold f_Model_instruct
  refine gw_aload_n (pc := 0) F 0 d_Model_instruct_0 rfl rfl ?_
  refine gw_cV (pc := 1) (As := []) (rest := []) F (c_Model_next (gw_FJ F) S hf_at) cw_Model_next cv_Model_next tw_550 rfl (by decide) (by decide) (by decide) rE_Model rfl rfl rfl rfl (Nat.le_of_ble_eq_true rfl) d_Model_instruct_1 (gw_bI (P := fun r U => vp_in (U 0 18) 1024 ∧ rOK U) ⟨(po_at_Model_next S hf_at), (po_ok_Model_next S hf_ok)⟩ (fun r1 S1 p1 => ?_))
  refine gw_istore_n (pc := 4) (lv' := [(1, .int r1), (0, .ref (ad 0))]) F d_Model_instruct_4 rfl (by decide) rfl ?_
  refine gw_aload_n (pc := 5) F 1 d_Model_instruct_5 rfl rfl ?_
  refine gw_dup (pc := 6) F d_Model_instruct_6 rfl ?_
  refine rg_Model_done (pc := 7) F tw_421 d_Model_instruct_7 ?_
  refine gw_iconst (pc := 10) (v := (1 : Int32)) F d_Model_instruct_10 (by decide) ?_
  refine gw_iadd (pc := 11) F d_Model_instruct_11 ?_
  refine rp_Model_done (pc := 12) F tw_421 d_Model_instruct_12 ?_
  refine gw_nS (fun S12 E12 => ?_)
  refine gw_iload_n (pc := 15) F 0 d_Model_instruct_15 rfl rfl ?_
  refine gw_spl (fun h16_9 => ?_) (fun h16_9 => ?_)
  · refine gw_tableIn (pc := 16) (tgt := 88) F d_Model_instruct_16 h16_9 (by decide) (by decide) rfl (by decide) ?_
    refine gw_aload_n (pc := 88) F 1 d_Model_instruct_88 rfl rfl ?_
    refine gw_aload_n (pc := 89) F 1 d_Model_instruct_89 rfl rfl ?_
    refine gw_cV (pc := 90) (As := []) (rest := [.ref (ad 0)]) F (c_Model_place (gw_FJ F) S12 (rOK_keep (P := fun z => vp_in z 1024) E12 p1.1 (by omega))) cw_Model_place cv_Model_place tw_554 rfl (by decide) (by decide) (by decide) rE_Model rfl rfl rfl rfl (Nat.le_of_ble_eq_true rfl) d_Model_instruct_90 (gw_bI (P := fun r U => vp_in (U 0 18) 1024 ∧ rOK U ∧ vp_in r 1024) ⟨(po_at_Model_place S12 (rOK_keep (P := fun z => vp_in z 1024) E12 p1.1 (by omega))), (po_ok_Model_place S12 (rOK_f E12 p1.2 (by omega))), (rb_place S12)⟩ (fun r90 S90 p90 => ?_))
    refine rp_Model_at (pc := 93) F tw_425 d_Model_instruct_93 ?_
    refine gw_nS (fun S93 E93 => ?_)
    refine gw_goto (pc := 96) (tgt := 224) F d_Model_instruct_96 (by decide) ?_
    exact gw_vret (pc := 224) F d_Model_instruct_224
  refine gw_spl (fun h16_10 => ?_) (fun h16_10 => ?_)
  · refine gw_tableIn (pc := 16) (tgt := 99) F d_Model_instruct_16 h16_10 (by decide) (by decide) rfl (by decide) ?_
    refine gw_aload_n (pc := 99) F 1 d_Model_instruct_99 rfl rfl ?_
    refine gw_cV (pc := 100) (As := []) (rest := []) F (c_Model_call (gw_FJ F) S12 (rOK_keep (P := fun z => vp_in z 1024) E12 p1.1 (by omega)) (rOK_f E12 p1.2 (by omega))) cw_Model_call cv_Model_call tw_562 rfl (by decide) (by decide) (by decide) rE_Model rfl rfl rfl rfl (Nat.le_of_ble_eq_true rfl) d_Model_instruct_100 (gw_bV (P := fun _ U => vp_in (U 0 18) 1024 ∧ rOK U) ⟨(po_at_Model_call S12 (rOK_keep (P := fun z => vp_in z 1024) E12 p1.1 (by omega)) (rOK_f E12 p1.2 (by omega))), (po_ok_Model_call S12 (rOK_keep (P := fun z => vp_in z 1024) E12 p1.1 (by omega)) (rOK_f E12 p1.2 (by omega)))⟩ (fun _ S100 p100 => ?_))
    refine gw_goto (pc := 103) (tgt := 224) F d_Model_instruct_103 (by decide) ?_
    exact gw_vret (pc := 224) F d_Model_instruct_224
  refine gw_spl (fun h16_11 => ?_) (fun h16_11 => ?_)
  · refine gw_tableIn (pc := 16) (tgt := 106) F d_Model_instruct_16 h16_11 (by decide) (by decide) rfl (by decide) ?_
    refine gw_aload_n (pc := 106) F 1 d_Model_instruct_106 rfl rfl ?_
    refine gw_cV (pc := 107) (As := []) (rest := []) F (c_Model_back (gw_FJ F) S12 (rOK_f E12 p1.2 (by omega))) cw_Model_back cv_Model_back tw_570 rfl (by decide) (by decide) (by decide) rE_Model rfl rfl rfl rfl (Nat.le_of_ble_eq_true rfl) d_Model_instruct_107 (gw_bV (P := fun _ U => vp_in (U 0 18) 1024 ∧ rOK U) ⟨(po_at_Model_back S12 (rOK_keep (P := fun z => vp_in z 1024) E12 p1.1 (by omega)) (rOK_f E12 p1.2 (by omega))), (po_ok_Model_back S12 (rOK_f E12 p1.2 (by omega)))⟩ (fun _ S107 p107 => ?_))
    refine gw_goto (pc := 110) (tgt := 224) F d_Model_instruct_110 (by decide) ?_
    exact gw_vret (pc := 224) F d_Model_instruct_224
  refine gw_spl (fun h16_12 => ?_) (fun h16_12 => ?_)
  · refine gw_tableIn (pc := 16) (tgt := 113) F d_Model_instruct_16 h16_12 (by decide) (by decide) rfl (by decide) ?_
    refine gw_aload_n (pc := 113) F 1 d_Model_instruct_113 rfl rfl ?_
    refine gw_cV (pc := 114) (As := []) (rest := []) F (c_Model_loop (gw_FJ F) S12 (rOK_keep (P := fun z => vp_in z 1024) E12 p1.1 (by omega))) cw_Model_loop cv_Model_loop tw_574 rfl (by decide) (by decide) (by decide) rE_Model rfl rfl rfl rfl (Nat.le_of_ble_eq_true rfl) d_Model_instruct_114 (gw_bV (P := fun _ U => vp_in (U 0 18) 1024 ∧ rOK U) ⟨(po_at_Model_loop S12 (rOK_keep (P := fun z => vp_in z 1024) E12 p1.1 (by omega))), (po_ok_Model_loop S12 (rOK_f E12 p1.2 (by omega)))⟩ (fun _ S114 p114 => ?_))
    refine gw_goto (pc := 117) (tgt := 224) F d_Model_instruct_117 (by decide) ?_
    exact gw_vret (pc := 224) F d_Model_instruct_224
  refine gw_spl (fun h16_13 => ?_) (fun h16_13 => ?_)
  · refine gw_tableIn (pc := 16) (tgt := 120) F d_Model_instruct_16 h16_13 (by decide) (by decide) rfl (by decide) ?_
    refine gw_aload_n (pc := 120) F 1 d_Model_instruct_120 rfl rfl ?_
    refine gw_cV (pc := 121) (As := []) (rest := []) F (c_Model_when (gw_FJ F) S12 (rOK_keep (P := fun z => vp_in z 1024) E12 p1.1 (by omega))) cw_Model_when cv_Model_when tw_582 rfl (by decide) (by decide) (by decide) rE_Model rfl rfl rfl rfl (Nat.le_of_ble_eq_true rfl) d_Model_instruct_121 (gw_bV (P := fun _ U => vp_in (U 0 18) 1024 ∧ rOK U) ⟨(po_at_Model_when S12 (rOK_keep (P := fun z => vp_in z 1024) E12 p1.1 (by omega))), (po_ok_Model_when S12 (rOK_f E12 p1.2 (by omega)))⟩ (fun _ S121 p121 => ?_))
    refine gw_goto (pc := 124) (tgt := 224) F d_Model_instruct_124 (by decide) ?_
    exact gw_vret (pc := 224) F d_Model_instruct_224
  refine gw_spl (fun h16_14 => ?_) (fun h16_14 => ?_)
  · refine gw_tableIn (pc := 16) (tgt := 127) F d_Model_instruct_16 h16_14 (by decide) (by decide) rfl (by decide) ?_
    refine gw_aload_n (pc := 127) F 1 d_Model_instruct_127 rfl rfl ?_
    refine gw_iconst (pc := 128) (v := (0 : Int32)) F d_Model_instruct_128 (by decide) ?_
    refine rp_Model_on (pc := 129) F tw_427 d_Model_instruct_129 rfl rfl ?_
    refine gw_nS (fun S129 E129 => ?_)
    refine gw_goto (pc := 132) (tgt := 224) F d_Model_instruct_132 (by decide) ?_
    exact gw_vret (pc := 224) F d_Model_instruct_224
  refine gw_spl (fun h16_15 => ?_) (fun h16_15 => ?_)
  · refine gw_tableIn (pc := 16) (tgt := 135) F d_Model_instruct_16 h16_15 (by decide) (by decide) rfl (by decide) ?_
    refine gw_aload_n (pc := 135) F 1 d_Model_instruct_135 rfl rfl ?_
    refine gw_iconst (pc := 136) (v := (-1 : Int32)) F d_Model_instruct_136 (by decide) ?_
    refine rp_Model_at (pc := 137) F tw_425 d_Model_instruct_137 ?_
    refine gw_nS (fun S137 E137 => ?_)
    refine gw_aload_n (pc := 140) F 1 d_Model_instruct_140 rfl rfl ?_
    refine gw_iconst (pc := 141) (v := (0 : Int32)) F d_Model_instruct_141 (by decide) ?_
    refine rp_Model_on (pc := 142) F tw_427 d_Model_instruct_142 rfl rfl ?_
    refine gw_nS (fun S142 E142 => ?_)
    refine gw_goto (pc := 145) (tgt := 224) F d_Model_instruct_145 (by decide) ?_
    exact gw_vret (pc := 224) F d_Model_instruct_224
  refine gw_spl (fun h16_16 => ?_) (fun h16_16 => ?_)
  · refine gw_tableIn (pc := 16) (tgt := 148) F d_Model_instruct_16 h16_16 (by decide) (by decide) rfl (by decide) ?_
    refine gw_aload_n (pc := 148) F 1 d_Model_instruct_148 rfl rfl ?_
    refine gw_cV (pc := 149) (As := []) (rest := []) F (c_Model_start (gw_FJ F) S12 (rOK_keep (P := fun z => vp_in z 1024) E12 p1.1 (by omega))) cw_Model_start cv_Model_start tw_593 rfl (by decide) (by decide) (by decide) rE_Model rfl rfl rfl rfl (Nat.le_of_ble_eq_true rfl) d_Model_instruct_149 (gw_bV (P := fun _ U => vp_in (U 0 18) 1024 ∧ rOK U) ⟨(po_at_Model_start S12 (rOK_keep (P := fun z => vp_in z 1024) E12 p1.1 (by omega))), (po_ok_Model_start S12 (rOK_f E12 p1.2 (by omega)))⟩ (fun _ S149 p149 => ?_))
    refine gw_goto (pc := 152) (tgt := 224) F d_Model_instruct_152 (by decide) ?_
    exact gw_vret (pc := 224) F d_Model_instruct_224
  refine gw_spl (fun h16_17 => ?_) (fun h16_17 => ?_)
  · refine gw_tableIn (pc := 16) (tgt := 155) F d_Model_instruct_16 h16_17 (by decide) (by decide) rfl (by decide) ?_
    refine gw_aload_n (pc := 155) F 1 d_Model_instruct_155 rfl rfl ?_
    refine gw_cV (pc := 156) (As := []) (rest := []) F (c_Model_each (gw_FJ F) S12 (rOK_keep (P := fun z => vp_in z 1024) E12 p1.1 (by omega))) cw_Model_each cv_Model_each tw_597 rfl (by decide) (by decide) (by decide) rE_Model rfl rfl rfl rfl (Nat.le_of_ble_eq_true rfl) d_Model_instruct_156 (gw_bV (P := fun _ U => vp_in (U 0 18) 1024 ∧ rOK U) ⟨(po_at_Model_each S12 (rOK_keep (P := fun z => vp_in z 1024) E12 p1.1 (by omega))), (po_ok_Model_each S12 (rOK_f E12 p1.2 (by omega)))⟩ (fun _ S156 p156 => ?_))
    refine gw_goto (pc := 159) (tgt := 224) F d_Model_instruct_159 (by decide) ?_
    exact gw_vret (pc := 224) F d_Model_instruct_224
  refine gw_spl (fun h16_18 => ?_) (fun h16_18 => ?_)
  · refine gw_tableIn (pc := 16) (tgt := 162) F d_Model_instruct_16 h16_18 (by decide) (by decide) rfl (by decide) ?_
    refine gw_aload_n (pc := 162) F 1 d_Model_instruct_162 rfl rfl ?_
    refine gw_aload_n (pc := 163) F 1 d_Model_instruct_163 rfl rfl ?_
    refine gw_cV (pc := 164) (As := []) (rest := [.ref (ad 0)]) F (c_Model_page (gw_FJ F) S12 (rOK_keep (P := fun z => vp_in z 1024) E12 p1.1 (by omega)) (rOK_f E12 p1.2 (by omega))) cw_Model_page cv_Model_page tw_601 rfl (by decide) (by decide) (by decide) rE_Model rfl rfl rfl rfl (Nat.le_of_ble_eq_true rfl) d_Model_instruct_164 (gw_bI (P := fun r U => vp_in (U 0 18) 1024 ∧ rOK U ∧ vp_in r 4) ⟨(po_at_Model_page S12 (rOK_keep (P := fun z => vp_in z 1024) E12 p1.1 (by omega))), (po_ok_Model_page S12 (rOK_f E12 p1.2 (by omega)) (rOK_keep (P := fun z => vp_in z 1024) E12 p1.1 (by omega))), (rb_page S12 (rOK_f E12 p1.2 (by omega)))⟩ (fun r164 S164 p164 => ?_))
    refine rp_Model_working (pc := 167) F tw_411 d_Model_instruct_167 ?_
    refine gw_nS (fun S167 E167 => ?_)
    refine gw_goto (pc := 170) (tgt := 224) F d_Model_instruct_170 (by decide) ?_
    exact gw_vret (pc := 224) F d_Model_instruct_224
  refine gw_spl (fun h16_19 => ?_) (fun h16_19 => ?_)
  · refine gw_tableIn (pc := 16) (tgt := 173) F d_Model_instruct_16 h16_19 (by decide) (by decide) rfl (by decide) ?_
    refine gw_aload_n (pc := 173) F 1 d_Model_instruct_173 rfl rfl ?_
    refine gw_cV (pc := 174) (As := []) (rest := []) F (c_Model_fill (gw_FJ F) S12 (rOK_keep (P := fun z => vp_in z 1024) E12 p1.1 (by omega)) (rOK_f E12 p1.2 (by omega))) cw_Model_fill cv_Model_fill tw_605 rfl (by decide) (by decide) (by decide) rE_Model rfl rfl rfl rfl (Nat.le_of_ble_eq_true rfl) d_Model_instruct_174 (gw_bV (P := fun _ U => vp_in (U 0 18) 1024 ∧ rOK U) ⟨(po_at_Model_fill S12 (rOK_keep (P := fun z => vp_in z 1024) E12 p1.1 (by omega)) (rOK_f E12 p1.2 (by omega))), (po_ok_Model_fill S12 (rOK_keep (P := fun z => vp_in z 1024) E12 p1.1 (by omega)) (rOK_f E12 p1.2 (by omega)))⟩ (fun _ S174 p174 => ?_))
    refine gw_goto (pc := 177) (tgt := 224) F d_Model_instruct_177 (by decide) ?_
    exact gw_vret (pc := 224) F d_Model_instruct_224
  refine gw_spl (fun h16_20 => ?_) (fun h16_20 => ?_)
  · refine gw_tableIn (pc := 16) (tgt := 180) F d_Model_instruct_16 h16_20 (by decide) (by decide) rfl (by decide) ?_
    refine gw_aload_n (pc := 180) F 1 d_Model_instruct_180 rfl rfl ?_
    refine gw_cV (pc := 181) (As := []) (rest := []) F (c_Model_copy (gw_FJ F) S12 (rOK_keep (P := fun z => vp_in z 1024) E12 p1.1 (by omega)) (rOK_f E12 p1.2 (by omega))) cw_Model_copy cv_Model_copy tw_609 rfl (by decide) (by decide) (by decide) rE_Model rfl rfl rfl rfl (Nat.le_of_ble_eq_true rfl) d_Model_instruct_181 (gw_bV (P := fun _ U => vp_in (U 0 18) 1024 ∧ rOK U) ⟨(po_at_Model_copy S12 (rOK_keep (P := fun z => vp_in z 1024) E12 p1.1 (by omega)) (rOK_f E12 p1.2 (by omega))), (po_ok_Model_copy S12 (rOK_keep (P := fun z => vp_in z 1024) E12 p1.1 (by omega)) (rOK_f E12 p1.2 (by omega)))⟩ (fun _ S181 p181 => ?_))
    refine gw_goto (pc := 184) (tgt := 224) F d_Model_instruct_184 (by decide) ?_
    exact gw_vret (pc := 224) F d_Model_instruct_224
  refine gw_spl (fun h16_21 => ?_) (fun h16_21 => ?_)
  · refine gw_tableIn (pc := 16) (tgt := 187) F d_Model_instruct_16 h16_21 (by decide) (by decide) rfl (by decide) ?_
    refine gw_aload_n (pc := 187) F 1 d_Model_instruct_187 rfl rfl ?_
    refine gw_aload_n (pc := 188) F 1 d_Model_instruct_188 rfl rfl ?_
    refine gw_cV (pc := 189) (As := []) (rest := [.ref (ad 0)]) F (c_Model_page (gw_FJ F) S12 (rOK_keep (P := fun z => vp_in z 1024) E12 p1.1 (by omega)) (rOK_f E12 p1.2 (by omega))) cw_Model_page cv_Model_page tw_601 rfl (by decide) (by decide) (by decide) rE_Model rfl rfl rfl rfl (Nat.le_of_ble_eq_true rfl) d_Model_instruct_189 (gw_bI (P := fun r U => vp_in (U 0 18) 1024 ∧ rOK U ∧ vp_in r 4) ⟨(po_at_Model_page S12 (rOK_keep (P := fun z => vp_in z 1024) E12 p1.1 (by omega))), (po_ok_Model_page S12 (rOK_f E12 p1.2 (by omega)) (rOK_keep (P := fun z => vp_in z 1024) E12 p1.1 (by omega))), (rb_page S12 (rOK_f E12 p1.2 (by omega)))⟩ (fun r189 S189 p189 => ?_))
    refine rp_Model_shown (pc := 192) F tw_412 d_Model_instruct_192 ?_
    refine gw_nS (fun S192 E192 => ?_)
    refine gw_goto (pc := 195) (tgt := 224) F d_Model_instruct_195 (by decide) ?_
    exact gw_vret (pc := 224) F d_Model_instruct_224
  refine gw_spl (fun h16_22 => ?_) (fun h16_22 => ?_)
  · refine gw_tableIn (pc := 16) (tgt := 198) F d_Model_instruct_16 h16_22 (by decide) (by decide) rfl (by decide) ?_
    refine gw_aload_n (pc := 198) F 1 d_Model_instruct_198 rfl rfl ?_
    refine gw_cV (pc := 199) (As := []) (rest := []) F (c_Model_draw (gw_FJ F) S12 (rOK_keep (P := fun z => vp_in z 1024) E12 p1.1 (by omega)) (rOK_f E12 p1.2 (by omega))) cw_Model_draw cv_Model_draw tw_613 rfl (by decide) (by decide) (by decide) rE_Model rfl rfl rfl rfl (Nat.le_of_ble_eq_true rfl) d_Model_instruct_199 (gw_bV (P := fun _ U => vp_in (U 0 18) 1024 ∧ rOK U) ⟨(po_at_Model_draw S12 (rOK_keep (P := fun z => vp_in z 1024) E12 p1.1 (by omega)) (rOK_f E12 p1.2 (by omega))), (po_ok_Model_draw S12 (rOK_keep (P := fun z => vp_in z 1024) E12 p1.1 (by omega)) (rOK_f E12 p1.2 (by omega)))⟩ (fun _ S199 p199 => ?_))
    refine gw_goto (pc := 202) (tgt := 224) F d_Model_instruct_202 (by decide) ?_
    exact gw_vret (pc := 224) F d_Model_instruct_224
  refine gw_tableOut (pc := 16) (tgt := 205) F d_Model_instruct_16 (by have ne_9 : ¬ (r1 : Int32).toInt = 9 := gw_ne h16_9; have ne_10 : ¬ (r1 : Int32).toInt = 10 := gw_ne h16_10; have ne_11 : ¬ (r1 : Int32).toInt = 11 := gw_ne h16_11; have ne_12 : ¬ (r1 : Int32).toInt = 12 := gw_ne h16_12; have ne_13 : ¬ (r1 : Int32).toInt = 13 := gw_ne h16_13; have ne_14 : ¬ (r1 : Int32).toInt = 14 := gw_ne h16_14; have ne_15 : ¬ (r1 : Int32).toInt = 15 := gw_ne h16_15; have ne_16 : ¬ (r1 : Int32).toInt = 16 := gw_ne h16_16; have ne_17 : ¬ (r1 : Int32).toInt = 17 := gw_ne h16_17; have ne_18 : ¬ (r1 : Int32).toInt = 18 := gw_ne h16_18; have ne_19 : ¬ (r1 : Int32).toInt = 19 := gw_ne h16_19; have ne_20 : ¬ (r1 : Int32).toInt = 20 := gw_ne h16_20; have ne_21 : ¬ (r1 : Int32).toInt = 21 := gw_ne h16_21; have ne_22 : ¬ (r1 : Int32).toInt = 22 := gw_ne h16_22; omega) (by decide) ?_
  refine gw_iload_n (pc := 205) F 0 d_Model_instruct_205 rfl rfl ?_
  refine gw_bipush (pc := 206) (v := (9 : Int32)) F d_Model_instruct_206 (by decide) ?_
  refine gw_icmp_geS (pc := 208) (tgt := 219) F d_Model_instruct_208 (by decide) (fun h208 => ?_) (fun h208 => ?_)
  · refine gw_aload_n (pc := 219) F 1 d_Model_instruct_219 rfl rfl ?_
    refine gw_iconst (pc := 220) (v := (5 : Int32)) F d_Model_instruct_220 (by decide) ?_
    refine gw_cV (pc := 221) (As := [.int (5 : Int32)]) (rest := []) F (c_Model_fails (gw_FJ F) S12 (5 : Int32)) cw_Model_fails cv_Model_fails tw_566 rfl (by decide) (by decide) (by decide) rE_Model rfl rfl rfl rfl (Nat.le_of_ble_eq_true rfl) d_Model_instruct_221 (gw_bV (P := fun _ U => vp_in (U 0 18) 1024 ∧ rOK U) ⟨(po_at_Model_fails S12 (5 : Int32) (rOK_keep (P := fun z => vp_in z 1024) E12 p1.1 (by omega))), (po_ok_Model_fails S12 (5 : Int32) (rOK_f E12 p1.2 (by omega)))⟩ (fun _ S221 p221 => ?_))
    exact gw_vret (pc := 224) F d_Model_instruct_224
  · refine gw_aload_n (pc := 211) F 1 d_Model_instruct_211 rfl rfl ?_
    refine gw_iload_n (pc := 212) F 0 d_Model_instruct_212 rfl rfl ?_
    refine gw_cV (pc := 213) (As := [.int r1]) (rest := []) F (c_Model_reckon (gw_FJ F) S12 r1 (rOK_keep (P := fun z => vp_in z 1024) E12 p1.1 (by omega))) cw_Model_reckon cv_Model_reckon tw_659 rfl (by decide) (by decide) (by decide) rE_Model rfl rfl rfl rfl (Nat.le_of_ble_eq_true rfl) d_Model_instruct_213 (gw_bV (P := fun _ U => vp_in (U 0 18) 1024 ∧ rOK U) ⟨(po_at_Model_reckon S12 r1 (rOK_keep (P := fun z => vp_in z 1024) E12 p1.1 (by omega))), (po_ok_Model_reckon S12 r1 (rOK_f E12 p1.2 (by omega)))⟩ (fun _ S213 p213 => ?_))
    refine gw_goto (pc := 216) (tgt := 224) F d_Model_instruct_216 (by decide) ?_
    exact gw_vret (pc := 224) F d_Model_instruct_224
set_option maxHeartbeats 4000000 in
set_option maxRecDepth 100000 in
theorem po_ok_Model_instruct   (S : gw_S)  (hf_at : vp_in (S 0 18) 1024) (hf_ok : rOK S) : rOK (f_Model_instruct S).2 := by
  unfold f_Model_instruct
  refine po_b (Φ := fun p : Unit × gw_S => rOK p.2) (P := fun r U => vp_in (U 0 18) 1024 ∧ rOK U) ⟨(po_at_Model_next S hf_at), (po_ok_Model_next S hf_ok)⟩ (fun r1 S1 p1 => ?_)
  refine po_n (Φ := fun p : Unit × gw_S => rOK p.2) (fun S12 E12 => ?_)
  refine po_if (Φ := fun p : Unit × gw_S => rOK p.2) (fun h16_9 => ?_) (fun h16_9 => ?_)
  · refine po_b (Φ := fun p : Unit × gw_S => rOK p.2) (P := fun r U => vp_in (U 0 18) 1024 ∧ rOK U ∧ vp_in r 1024) ⟨(po_at_Model_place S12 (rOK_keep (P := fun z => vp_in z 1024) E12 p1.1 (by omega))), (po_ok_Model_place S12 (rOK_f E12 p1.2 (by omega))), (rb_place S12)⟩ (fun r90 S90 p90 => ?_)
    refine po_n (Φ := fun p : Unit × gw_S => rOK p.2) (fun S93 E93 => ?_)
    exact (rOK_f E93 p90.2.1 (by omega))
  refine po_if (Φ := fun p : Unit × gw_S => rOK p.2) (fun h16_10 => ?_) (fun h16_10 => ?_)
  · refine po_b (Φ := fun p : Unit × gw_S => rOK p.2) (P := fun _ U => vp_in (U 0 18) 1024 ∧ rOK U) ⟨(po_at_Model_call S12 (rOK_keep (P := fun z => vp_in z 1024) E12 p1.1 (by omega)) (rOK_f E12 p1.2 (by omega))), (po_ok_Model_call S12 (rOK_keep (P := fun z => vp_in z 1024) E12 p1.1 (by omega)) (rOK_f E12 p1.2 (by omega)))⟩ (fun _ S100 p100 => ?_)
    exact p100.2
  refine po_if (Φ := fun p : Unit × gw_S => rOK p.2) (fun h16_11 => ?_) (fun h16_11 => ?_)
  · refine po_b (Φ := fun p : Unit × gw_S => rOK p.2) (P := fun _ U => vp_in (U 0 18) 1024 ∧ rOK U) ⟨(po_at_Model_back S12 (rOK_keep (P := fun z => vp_in z 1024) E12 p1.1 (by omega)) (rOK_f E12 p1.2 (by omega))), (po_ok_Model_back S12 (rOK_f E12 p1.2 (by omega)))⟩ (fun _ S107 p107 => ?_)
    exact p107.2
  refine po_if (Φ := fun p : Unit × gw_S => rOK p.2) (fun h16_12 => ?_) (fun h16_12 => ?_)
  · refine po_b (Φ := fun p : Unit × gw_S => rOK p.2) (P := fun _ U => vp_in (U 0 18) 1024 ∧ rOK U) ⟨(po_at_Model_loop S12 (rOK_keep (P := fun z => vp_in z 1024) E12 p1.1 (by omega))), (po_ok_Model_loop S12 (rOK_f E12 p1.2 (by omega)))⟩ (fun _ S114 p114 => ?_)
    exact p114.2
  refine po_if (Φ := fun p : Unit × gw_S => rOK p.2) (fun h16_13 => ?_) (fun h16_13 => ?_)
  · refine po_b (Φ := fun p : Unit × gw_S => rOK p.2) (P := fun _ U => vp_in (U 0 18) 1024 ∧ rOK U) ⟨(po_at_Model_when S12 (rOK_keep (P := fun z => vp_in z 1024) E12 p1.1 (by omega))), (po_ok_Model_when S12 (rOK_f E12 p1.2 (by omega)))⟩ (fun _ S121 p121 => ?_)
    exact p121.2
  refine po_if (Φ := fun p : Unit × gw_S => rOK p.2) (fun h16_14 => ?_) (fun h16_14 => ?_)
  · refine po_n (Φ := fun p : Unit × gw_S => rOK p.2) (fun S129 E129 => ?_)
    exact (rOK_f E129 (rOK_f E12 p1.2 (by omega)) (by omega))
  refine po_if (Φ := fun p : Unit × gw_S => rOK p.2) (fun h16_15 => ?_) (fun h16_15 => ?_)
  · refine po_n (Φ := fun p : Unit × gw_S => rOK p.2) (fun S137 E137 => ?_)
    refine po_n (Φ := fun p : Unit × gw_S => rOK p.2) (fun S142 E142 => ?_)
    exact (rOK_f E142 (rOK_f E137 (rOK_f E12 p1.2 (by omega)) (by omega)) (by omega))
  refine po_if (Φ := fun p : Unit × gw_S => rOK p.2) (fun h16_16 => ?_) (fun h16_16 => ?_)
  · refine po_b (Φ := fun p : Unit × gw_S => rOK p.2) (P := fun _ U => vp_in (U 0 18) 1024 ∧ rOK U) ⟨(po_at_Model_start S12 (rOK_keep (P := fun z => vp_in z 1024) E12 p1.1 (by omega))), (po_ok_Model_start S12 (rOK_f E12 p1.2 (by omega)))⟩ (fun _ S149 p149 => ?_)
    exact p149.2
  refine po_if (Φ := fun p : Unit × gw_S => rOK p.2) (fun h16_17 => ?_) (fun h16_17 => ?_)
  · refine po_b (Φ := fun p : Unit × gw_S => rOK p.2) (P := fun _ U => vp_in (U 0 18) 1024 ∧ rOK U) ⟨(po_at_Model_each S12 (rOK_keep (P := fun z => vp_in z 1024) E12 p1.1 (by omega))), (po_ok_Model_each S12 (rOK_f E12 p1.2 (by omega)))⟩ (fun _ S156 p156 => ?_)
    exact p156.2
  refine po_if (Φ := fun p : Unit × gw_S => rOK p.2) (fun h16_18 => ?_) (fun h16_18 => ?_)
  · refine po_b (Φ := fun p : Unit × gw_S => rOK p.2) (P := fun r U => vp_in (U 0 18) 1024 ∧ rOK U ∧ vp_in r 4) ⟨(po_at_Model_page S12 (rOK_keep (P := fun z => vp_in z 1024) E12 p1.1 (by omega))), (po_ok_Model_page S12 (rOK_f E12 p1.2 (by omega)) (rOK_keep (P := fun z => vp_in z 1024) E12 p1.1 (by omega))), (rb_page S12 (rOK_f E12 p1.2 (by omega)))⟩ (fun r164 S164 p164 => ?_)
    refine po_n (Φ := fun p : Unit × gw_S => rOK p.2) (fun S167 E167 => ?_)
    exact (rOK_pg E167 p164.2.1 (by omega) p164.2.2)
  refine po_if (Φ := fun p : Unit × gw_S => rOK p.2) (fun h16_19 => ?_) (fun h16_19 => ?_)
  · refine po_b (Φ := fun p : Unit × gw_S => rOK p.2) (P := fun _ U => vp_in (U 0 18) 1024 ∧ rOK U) ⟨(po_at_Model_fill S12 (rOK_keep (P := fun z => vp_in z 1024) E12 p1.1 (by omega)) (rOK_f E12 p1.2 (by omega))), (po_ok_Model_fill S12 (rOK_keep (P := fun z => vp_in z 1024) E12 p1.1 (by omega)) (rOK_f E12 p1.2 (by omega)))⟩ (fun _ S174 p174 => ?_)
    exact p174.2
  refine po_if (Φ := fun p : Unit × gw_S => rOK p.2) (fun h16_20 => ?_) (fun h16_20 => ?_)
  · refine po_b (Φ := fun p : Unit × gw_S => rOK p.2) (P := fun _ U => vp_in (U 0 18) 1024 ∧ rOK U) ⟨(po_at_Model_copy S12 (rOK_keep (P := fun z => vp_in z 1024) E12 p1.1 (by omega)) (rOK_f E12 p1.2 (by omega))), (po_ok_Model_copy S12 (rOK_keep (P := fun z => vp_in z 1024) E12 p1.1 (by omega)) (rOK_f E12 p1.2 (by omega)))⟩ (fun _ S181 p181 => ?_)
    exact p181.2
  refine po_if (Φ := fun p : Unit × gw_S => rOK p.2) (fun h16_21 => ?_) (fun h16_21 => ?_)
  · refine po_b (Φ := fun p : Unit × gw_S => rOK p.2) (P := fun r U => vp_in (U 0 18) 1024 ∧ rOK U ∧ vp_in r 4) ⟨(po_at_Model_page S12 (rOK_keep (P := fun z => vp_in z 1024) E12 p1.1 (by omega))), (po_ok_Model_page S12 (rOK_f E12 p1.2 (by omega)) (rOK_keep (P := fun z => vp_in z 1024) E12 p1.1 (by omega))), (rb_page S12 (rOK_f E12 p1.2 (by omega)))⟩ (fun r189 S189 p189 => ?_)
    refine po_n (Φ := fun p : Unit × gw_S => rOK p.2) (fun S192 E192 => ?_)
    exact (rOK_pg E192 p189.2.1 (by omega) p189.2.2)
  refine po_if (Φ := fun p : Unit × gw_S => rOK p.2) (fun h16_22 => ?_) (fun h16_22 => ?_)
  · refine po_b (Φ := fun p : Unit × gw_S => rOK p.2) (P := fun _ U => vp_in (U 0 18) 1024 ∧ rOK U) ⟨(po_at_Model_draw S12 (rOK_keep (P := fun z => vp_in z 1024) E12 p1.1 (by omega)) (rOK_f E12 p1.2 (by omega))), (po_ok_Model_draw S12 (rOK_keep (P := fun z => vp_in z 1024) E12 p1.1 (by omega)) (rOK_f E12 p1.2 (by omega)))⟩ (fun _ S199 p199 => ?_)
    exact p199.2
  refine po_if (Φ := fun p : Unit × gw_S => rOK p.2) (fun h208 => ?_) (fun h208 => ?_)
  · refine po_b (Φ := fun p : Unit × gw_S => rOK p.2) (P := fun _ U => vp_in (U 0 18) 1024 ∧ rOK U) ⟨(po_at_Model_fails S12 (5 : Int32) (rOK_keep (P := fun z => vp_in z 1024) E12 p1.1 (by omega))), (po_ok_Model_fails S12 (5 : Int32) (rOK_f E12 p1.2 (by omega)))⟩ (fun _ S221 p221 => ?_)
    exact p221.2
  · refine po_b (Φ := fun p : Unit × gw_S => rOK p.2) (P := fun _ U => vp_in (U 0 18) 1024 ∧ rOK U) ⟨(po_at_Model_reckon S12 r1 (rOK_keep (P := fun z => vp_in z 1024) E12 p1.1 (by omega))), (po_ok_Model_reckon S12 r1 (rOK_f E12 p1.2 (by omega)))⟩ (fun _ S213 p213 => ?_)
    exact p213.2
set_option maxHeartbeats 4000000 in
set_option maxRecDepth 100000 in
theorem po_ad_Model_instruct   (S : gw_S)  (hf_at : vp_in (S 0 18) 1024) (hf_ok : rOK S) : rAd ((f_Model_instruct S).2 0 18) := by
  unfold f_Model_instruct
  refine po_b (Φ := fun p : Unit × gw_S => rAd (p.2 0 18)) (P := fun r U => vp_in (U 0 18) 1024 ∧ rOK U) ⟨(po_at_Model_next S hf_at), (po_ok_Model_next S hf_ok)⟩ (fun r1 S1 p1 => ?_)
  refine po_n (Φ := fun p : Unit × gw_S => rAd (p.2 0 18)) (fun S12 E12 => ?_)
  refine po_if (Φ := fun p : Unit × gw_S => rAd (p.2 0 18)) (fun h16_9 => ?_) (fun h16_9 => ?_)
  · refine po_b (Φ := fun p : Unit × gw_S => rAd (p.2 0 18)) (P := fun r U => vp_in (U 0 18) 1024 ∧ rOK U ∧ vp_in r 1024) ⟨(po_at_Model_place S12 (rOK_keep (P := fun z => vp_in z 1024) E12 p1.1 (by omega))), (po_ok_Model_place S12 (rOK_f E12 p1.2 (by omega))), (rb_place S12)⟩ (fun r90 S90 p90 => ?_)
    refine po_n (Φ := fun p : Unit × gw_S => rAd (p.2 0 18)) (fun S93 E93 => ?_)
    exact (rAd_in (rAt_set E93 p90.2.2))
  refine po_if (Φ := fun p : Unit × gw_S => rAd (p.2 0 18)) (fun h16_10 => ?_) (fun h16_10 => ?_)
  · refine po_b (Φ := fun p : Unit × gw_S => rAd (p.2 0 18)) (P := fun _ U => vp_in (U 0 18) 1024 ∧ rOK U) ⟨(po_at_Model_call S12 (rOK_keep (P := fun z => vp_in z 1024) E12 p1.1 (by omega)) (rOK_f E12 p1.2 (by omega))), (po_ok_Model_call S12 (rOK_keep (P := fun z => vp_in z 1024) E12 p1.1 (by omega)) (rOK_f E12 p1.2 (by omega)))⟩ (fun _ S100 p100 => ?_)
    exact (rAd_in p100.1)
  refine po_if (Φ := fun p : Unit × gw_S => rAd (p.2 0 18)) (fun h16_11 => ?_) (fun h16_11 => ?_)
  · refine po_b (Φ := fun p : Unit × gw_S => rAd (p.2 0 18)) (P := fun _ U => vp_in (U 0 18) 1024 ∧ rOK U) ⟨(po_at_Model_back S12 (rOK_keep (P := fun z => vp_in z 1024) E12 p1.1 (by omega)) (rOK_f E12 p1.2 (by omega))), (po_ok_Model_back S12 (rOK_f E12 p1.2 (by omega)))⟩ (fun _ S107 p107 => ?_)
    exact (rAd_in p107.1)
  refine po_if (Φ := fun p : Unit × gw_S => rAd (p.2 0 18)) (fun h16_12 => ?_) (fun h16_12 => ?_)
  · refine po_b (Φ := fun p : Unit × gw_S => rAd (p.2 0 18)) (P := fun _ U => vp_in (U 0 18) 1024 ∧ rOK U) ⟨(po_at_Model_loop S12 (rOK_keep (P := fun z => vp_in z 1024) E12 p1.1 (by omega))), (po_ok_Model_loop S12 (rOK_f E12 p1.2 (by omega)))⟩ (fun _ S114 p114 => ?_)
    exact (rAd_in p114.1)
  refine po_if (Φ := fun p : Unit × gw_S => rAd (p.2 0 18)) (fun h16_13 => ?_) (fun h16_13 => ?_)
  · refine po_b (Φ := fun p : Unit × gw_S => rAd (p.2 0 18)) (P := fun _ U => vp_in (U 0 18) 1024 ∧ rOK U) ⟨(po_at_Model_when S12 (rOK_keep (P := fun z => vp_in z 1024) E12 p1.1 (by omega))), (po_ok_Model_when S12 (rOK_f E12 p1.2 (by omega)))⟩ (fun _ S121 p121 => ?_)
    exact (rAd_in p121.1)
  refine po_if (Φ := fun p : Unit × gw_S => rAd (p.2 0 18)) (fun h16_14 => ?_) (fun h16_14 => ?_)
  · refine po_n (Φ := fun p : Unit × gw_S => rAd (p.2 0 18)) (fun S129 E129 => ?_)
    exact (rAd_in (rOK_keep (P := fun z => vp_in z 1024) E129 (rOK_keep (P := fun z => vp_in z 1024) E12 p1.1 (by omega)) (by omega)))
  refine po_if (Φ := fun p : Unit × gw_S => rAd (p.2 0 18)) (fun h16_15 => ?_) (fun h16_15 => ?_)
  · refine po_n (Φ := fun p : Unit × gw_S => rAd (p.2 0 18)) (fun S137 E137 => ?_)
    refine po_n (Φ := fun p : Unit × gw_S => rAd (p.2 0 18)) (fun S142 E142 => ?_)
    exact (rOK_keep (P := rAd) E142 (rAd_set E137 (by unfold rAd; decide)) (by omega))
  refine po_if (Φ := fun p : Unit × gw_S => rAd (p.2 0 18)) (fun h16_16 => ?_) (fun h16_16 => ?_)
  · refine po_b (Φ := fun p : Unit × gw_S => rAd (p.2 0 18)) (P := fun _ U => vp_in (U 0 18) 1024 ∧ rOK U) ⟨(po_at_Model_start S12 (rOK_keep (P := fun z => vp_in z 1024) E12 p1.1 (by omega))), (po_ok_Model_start S12 (rOK_f E12 p1.2 (by omega)))⟩ (fun _ S149 p149 => ?_)
    exact (rAd_in p149.1)
  refine po_if (Φ := fun p : Unit × gw_S => rAd (p.2 0 18)) (fun h16_17 => ?_) (fun h16_17 => ?_)
  · refine po_b (Φ := fun p : Unit × gw_S => rAd (p.2 0 18)) (P := fun _ U => vp_in (U 0 18) 1024 ∧ rOK U) ⟨(po_at_Model_each S12 (rOK_keep (P := fun z => vp_in z 1024) E12 p1.1 (by omega))), (po_ok_Model_each S12 (rOK_f E12 p1.2 (by omega)))⟩ (fun _ S156 p156 => ?_)
    exact (rAd_in p156.1)
  refine po_if (Φ := fun p : Unit × gw_S => rAd (p.2 0 18)) (fun h16_18 => ?_) (fun h16_18 => ?_)
  · refine po_b (Φ := fun p : Unit × gw_S => rAd (p.2 0 18)) (P := fun r U => vp_in (U 0 18) 1024 ∧ rOK U ∧ vp_in r 4) ⟨(po_at_Model_page S12 (rOK_keep (P := fun z => vp_in z 1024) E12 p1.1 (by omega))), (po_ok_Model_page S12 (rOK_f E12 p1.2 (by omega)) (rOK_keep (P := fun z => vp_in z 1024) E12 p1.1 (by omega))), (rb_page S12 (rOK_f E12 p1.2 (by omega)))⟩ (fun r164 S164 p164 => ?_)
    refine po_n (Φ := fun p : Unit × gw_S => rAd (p.2 0 18)) (fun S167 E167 => ?_)
    exact (rAd_in (rOK_keep (P := fun z => vp_in z 1024) E167 p164.1 (by omega)))
  refine po_if (Φ := fun p : Unit × gw_S => rAd (p.2 0 18)) (fun h16_19 => ?_) (fun h16_19 => ?_)
  · refine po_b (Φ := fun p : Unit × gw_S => rAd (p.2 0 18)) (P := fun _ U => vp_in (U 0 18) 1024 ∧ rOK U) ⟨(po_at_Model_fill S12 (rOK_keep (P := fun z => vp_in z 1024) E12 p1.1 (by omega)) (rOK_f E12 p1.2 (by omega))), (po_ok_Model_fill S12 (rOK_keep (P := fun z => vp_in z 1024) E12 p1.1 (by omega)) (rOK_f E12 p1.2 (by omega)))⟩ (fun _ S174 p174 => ?_)
    exact (rAd_in p174.1)
  refine po_if (Φ := fun p : Unit × gw_S => rAd (p.2 0 18)) (fun h16_20 => ?_) (fun h16_20 => ?_)
  · refine po_b (Φ := fun p : Unit × gw_S => rAd (p.2 0 18)) (P := fun _ U => vp_in (U 0 18) 1024 ∧ rOK U) ⟨(po_at_Model_copy S12 (rOK_keep (P := fun z => vp_in z 1024) E12 p1.1 (by omega)) (rOK_f E12 p1.2 (by omega))), (po_ok_Model_copy S12 (rOK_keep (P := fun z => vp_in z 1024) E12 p1.1 (by omega)) (rOK_f E12 p1.2 (by omega)))⟩ (fun _ S181 p181 => ?_)
    exact (rAd_in p181.1)
  refine po_if (Φ := fun p : Unit × gw_S => rAd (p.2 0 18)) (fun h16_21 => ?_) (fun h16_21 => ?_)
  · refine po_b (Φ := fun p : Unit × gw_S => rAd (p.2 0 18)) (P := fun r U => vp_in (U 0 18) 1024 ∧ rOK U ∧ vp_in r 4) ⟨(po_at_Model_page S12 (rOK_keep (P := fun z => vp_in z 1024) E12 p1.1 (by omega))), (po_ok_Model_page S12 (rOK_f E12 p1.2 (by omega)) (rOK_keep (P := fun z => vp_in z 1024) E12 p1.1 (by omega))), (rb_page S12 (rOK_f E12 p1.2 (by omega)))⟩ (fun r189 S189 p189 => ?_)
    refine po_n (Φ := fun p : Unit × gw_S => rAd (p.2 0 18)) (fun S192 E192 => ?_)
    exact (rAd_in (rOK_keep (P := fun z => vp_in z 1024) E192 p189.1 (by omega)))
  refine po_if (Φ := fun p : Unit × gw_S => rAd (p.2 0 18)) (fun h16_22 => ?_) (fun h16_22 => ?_)
  · refine po_b (Φ := fun p : Unit × gw_S => rAd (p.2 0 18)) (P := fun _ U => vp_in (U 0 18) 1024 ∧ rOK U) ⟨(po_at_Model_draw S12 (rOK_keep (P := fun z => vp_in z 1024) E12 p1.1 (by omega)) (rOK_f E12 p1.2 (by omega))), (po_ok_Model_draw S12 (rOK_keep (P := fun z => vp_in z 1024) E12 p1.1 (by omega)) (rOK_f E12 p1.2 (by omega)))⟩ (fun _ S199 p199 => ?_)
    exact (rAd_in p199.1)
  refine po_if (Φ := fun p : Unit × gw_S => rAd (p.2 0 18)) (fun h208 => ?_) (fun h208 => ?_)
  · refine po_b (Φ := fun p : Unit × gw_S => rAd (p.2 0 18)) (P := fun _ U => vp_in (U 0 18) 1024 ∧ rOK U) ⟨(po_at_Model_fails S12 (5 : Int32) (rOK_keep (P := fun z => vp_in z 1024) E12 p1.1 (by omega))), (po_ok_Model_fails S12 (5 : Int32) (rOK_f E12 p1.2 (by omega)))⟩ (fun _ S221 p221 => ?_)
    exact (rAd_in p221.1)
  · refine po_b (Φ := fun p : Unit × gw_S => rAd (p.2 0 18)) (P := fun _ U => vp_in (U 0 18) 1024 ∧ rOK U) ⟨(po_at_Model_reckon S12 r1 (rOK_keep (P := fun z => vp_in z 1024) E12 p1.1 (by omega))), (po_ok_Model_reckon S12 r1 (rOK_f E12 p1.2 (by omega)))⟩ (fun _ S213 p213 => ?_)
    exact (rAd_in p213.1)
set_option maxHeartbeats 4000000 in
set_option maxRecDepth 100000 in
theorem po_on_Model_instruct   (S : gw_S)  (hf_at : vp_in (S 0 18) 1024) (hf_ok : rOK S) : (¬ (f_Model_instruct S).2 0 20 = 0 → vp_in ((f_Model_instruct S).2 0 18) 1024) := by
  unfold f_Model_instruct
  refine po_b (Φ := fun p : Unit × gw_S => (¬ p.2 0 20 = 0 → vp_in (p.2 0 18) 1024)) (P := fun r U => vp_in (U 0 18) 1024 ∧ rOK U) ⟨(po_at_Model_next S hf_at), (po_ok_Model_next S hf_ok)⟩ (fun r1 S1 p1 => ?_)
  refine po_n (Φ := fun p : Unit × gw_S => (¬ p.2 0 20 = 0 → vp_in (p.2 0 18) 1024)) (fun S12 E12 => ?_)
  refine po_if (Φ := fun p : Unit × gw_S => (¬ p.2 0 20 = 0 → vp_in (p.2 0 18) 1024)) (fun h16_9 => ?_) (fun h16_9 => ?_)
  · refine po_b (Φ := fun p : Unit × gw_S => (¬ p.2 0 20 = 0 → vp_in (p.2 0 18) 1024)) (P := fun r U => vp_in (U 0 18) 1024 ∧ rOK U ∧ vp_in r 1024) ⟨(po_at_Model_place S12 (rOK_keep (P := fun z => vp_in z 1024) E12 p1.1 (by omega))), (po_ok_Model_place S12 (rOK_f E12 p1.2 (by omega))), (rb_place S12)⟩ (fun r90 S90 p90 => ?_)
    refine po_n (Φ := fun p : Unit × gw_S => (¬ p.2 0 20 = 0 → vp_in (p.2 0 18) 1024)) (fun S93 E93 => ?_)
    exact (fun _ => (rAt_set E93 p90.2.2))
  refine po_if (Φ := fun p : Unit × gw_S => (¬ p.2 0 20 = 0 → vp_in (p.2 0 18) 1024)) (fun h16_10 => ?_) (fun h16_10 => ?_)
  · refine po_b (Φ := fun p : Unit × gw_S => (¬ p.2 0 20 = 0 → vp_in (p.2 0 18) 1024)) (P := fun _ U => vp_in (U 0 18) 1024 ∧ rOK U) ⟨(po_at_Model_call S12 (rOK_keep (P := fun z => vp_in z 1024) E12 p1.1 (by omega)) (rOK_f E12 p1.2 (by omega))), (po_ok_Model_call S12 (rOK_keep (P := fun z => vp_in z 1024) E12 p1.1 (by omega)) (rOK_f E12 p1.2 (by omega)))⟩ (fun _ S100 p100 => ?_)
    exact (fun _ => p100.1)
  refine po_if (Φ := fun p : Unit × gw_S => (¬ p.2 0 20 = 0 → vp_in (p.2 0 18) 1024)) (fun h16_11 => ?_) (fun h16_11 => ?_)
  · refine po_b (Φ := fun p : Unit × gw_S => (¬ p.2 0 20 = 0 → vp_in (p.2 0 18) 1024)) (P := fun _ U => vp_in (U 0 18) 1024 ∧ rOK U) ⟨(po_at_Model_back S12 (rOK_keep (P := fun z => vp_in z 1024) E12 p1.1 (by omega)) (rOK_f E12 p1.2 (by omega))), (po_ok_Model_back S12 (rOK_f E12 p1.2 (by omega)))⟩ (fun _ S107 p107 => ?_)
    exact (fun _ => p107.1)
  refine po_if (Φ := fun p : Unit × gw_S => (¬ p.2 0 20 = 0 → vp_in (p.2 0 18) 1024)) (fun h16_12 => ?_) (fun h16_12 => ?_)
  · refine po_b (Φ := fun p : Unit × gw_S => (¬ p.2 0 20 = 0 → vp_in (p.2 0 18) 1024)) (P := fun _ U => vp_in (U 0 18) 1024 ∧ rOK U) ⟨(po_at_Model_loop S12 (rOK_keep (P := fun z => vp_in z 1024) E12 p1.1 (by omega))), (po_ok_Model_loop S12 (rOK_f E12 p1.2 (by omega)))⟩ (fun _ S114 p114 => ?_)
    exact (fun _ => p114.1)
  refine po_if (Φ := fun p : Unit × gw_S => (¬ p.2 0 20 = 0 → vp_in (p.2 0 18) 1024)) (fun h16_13 => ?_) (fun h16_13 => ?_)
  · refine po_b (Φ := fun p : Unit × gw_S => (¬ p.2 0 20 = 0 → vp_in (p.2 0 18) 1024)) (P := fun _ U => vp_in (U 0 18) 1024 ∧ rOK U) ⟨(po_at_Model_when S12 (rOK_keep (P := fun z => vp_in z 1024) E12 p1.1 (by omega))), (po_ok_Model_when S12 (rOK_f E12 p1.2 (by omega)))⟩ (fun _ S121 p121 => ?_)
    exact (fun _ => p121.1)
  refine po_if (Φ := fun p : Unit × gw_S => (¬ p.2 0 20 = 0 → vp_in (p.2 0 18) 1024)) (fun h16_14 => ?_) (fun h16_14 => ?_)
  · refine po_n (Φ := fun p : Unit × gw_S => (¬ p.2 0 20 = 0 → vp_in (p.2 0 18) 1024)) (fun S129 E129 => ?_)
    exact (rOn0 E129)
  refine po_if (Φ := fun p : Unit × gw_S => (¬ p.2 0 20 = 0 → vp_in (p.2 0 18) 1024)) (fun h16_15 => ?_) (fun h16_15 => ?_)
  · refine po_n (Φ := fun p : Unit × gw_S => (¬ p.2 0 20 = 0 → vp_in (p.2 0 18) 1024)) (fun S137 E137 => ?_)
    refine po_n (Φ := fun p : Unit × gw_S => (¬ p.2 0 20 = 0 → vp_in (p.2 0 18) 1024)) (fun S142 E142 => ?_)
    exact (rOn0 E142)
  refine po_if (Φ := fun p : Unit × gw_S => (¬ p.2 0 20 = 0 → vp_in (p.2 0 18) 1024)) (fun h16_16 => ?_) (fun h16_16 => ?_)
  · refine po_b (Φ := fun p : Unit × gw_S => (¬ p.2 0 20 = 0 → vp_in (p.2 0 18) 1024)) (P := fun _ U => vp_in (U 0 18) 1024 ∧ rOK U) ⟨(po_at_Model_start S12 (rOK_keep (P := fun z => vp_in z 1024) E12 p1.1 (by omega))), (po_ok_Model_start S12 (rOK_f E12 p1.2 (by omega)))⟩ (fun _ S149 p149 => ?_)
    exact (fun _ => p149.1)
  refine po_if (Φ := fun p : Unit × gw_S => (¬ p.2 0 20 = 0 → vp_in (p.2 0 18) 1024)) (fun h16_17 => ?_) (fun h16_17 => ?_)
  · refine po_b (Φ := fun p : Unit × gw_S => (¬ p.2 0 20 = 0 → vp_in (p.2 0 18) 1024)) (P := fun _ U => vp_in (U 0 18) 1024 ∧ rOK U) ⟨(po_at_Model_each S12 (rOK_keep (P := fun z => vp_in z 1024) E12 p1.1 (by omega))), (po_ok_Model_each S12 (rOK_f E12 p1.2 (by omega)))⟩ (fun _ S156 p156 => ?_)
    exact (fun _ => p156.1)
  refine po_if (Φ := fun p : Unit × gw_S => (¬ p.2 0 20 = 0 → vp_in (p.2 0 18) 1024)) (fun h16_18 => ?_) (fun h16_18 => ?_)
  · refine po_b (Φ := fun p : Unit × gw_S => (¬ p.2 0 20 = 0 → vp_in (p.2 0 18) 1024)) (P := fun r U => vp_in (U 0 18) 1024 ∧ rOK U ∧ vp_in r 4) ⟨(po_at_Model_page S12 (rOK_keep (P := fun z => vp_in z 1024) E12 p1.1 (by omega))), (po_ok_Model_page S12 (rOK_f E12 p1.2 (by omega)) (rOK_keep (P := fun z => vp_in z 1024) E12 p1.1 (by omega))), (rb_page S12 (rOK_f E12 p1.2 (by omega)))⟩ (fun r164 S164 p164 => ?_)
    refine po_n (Φ := fun p : Unit × gw_S => (¬ p.2 0 20 = 0 → vp_in (p.2 0 18) 1024)) (fun S167 E167 => ?_)
    exact (fun _ => (rOK_keep (P := fun z => vp_in z 1024) E167 p164.1 (by omega)))
  refine po_if (Φ := fun p : Unit × gw_S => (¬ p.2 0 20 = 0 → vp_in (p.2 0 18) 1024)) (fun h16_19 => ?_) (fun h16_19 => ?_)
  · refine po_b (Φ := fun p : Unit × gw_S => (¬ p.2 0 20 = 0 → vp_in (p.2 0 18) 1024)) (P := fun _ U => vp_in (U 0 18) 1024 ∧ rOK U) ⟨(po_at_Model_fill S12 (rOK_keep (P := fun z => vp_in z 1024) E12 p1.1 (by omega)) (rOK_f E12 p1.2 (by omega))), (po_ok_Model_fill S12 (rOK_keep (P := fun z => vp_in z 1024) E12 p1.1 (by omega)) (rOK_f E12 p1.2 (by omega)))⟩ (fun _ S174 p174 => ?_)
    exact (fun _ => p174.1)
  refine po_if (Φ := fun p : Unit × gw_S => (¬ p.2 0 20 = 0 → vp_in (p.2 0 18) 1024)) (fun h16_20 => ?_) (fun h16_20 => ?_)
  · refine po_b (Φ := fun p : Unit × gw_S => (¬ p.2 0 20 = 0 → vp_in (p.2 0 18) 1024)) (P := fun _ U => vp_in (U 0 18) 1024 ∧ rOK U) ⟨(po_at_Model_copy S12 (rOK_keep (P := fun z => vp_in z 1024) E12 p1.1 (by omega)) (rOK_f E12 p1.2 (by omega))), (po_ok_Model_copy S12 (rOK_keep (P := fun z => vp_in z 1024) E12 p1.1 (by omega)) (rOK_f E12 p1.2 (by omega)))⟩ (fun _ S181 p181 => ?_)
    exact (fun _ => p181.1)
  refine po_if (Φ := fun p : Unit × gw_S => (¬ p.2 0 20 = 0 → vp_in (p.2 0 18) 1024)) (fun h16_21 => ?_) (fun h16_21 => ?_)
  · refine po_b (Φ := fun p : Unit × gw_S => (¬ p.2 0 20 = 0 → vp_in (p.2 0 18) 1024)) (P := fun r U => vp_in (U 0 18) 1024 ∧ rOK U ∧ vp_in r 4) ⟨(po_at_Model_page S12 (rOK_keep (P := fun z => vp_in z 1024) E12 p1.1 (by omega))), (po_ok_Model_page S12 (rOK_f E12 p1.2 (by omega)) (rOK_keep (P := fun z => vp_in z 1024) E12 p1.1 (by omega))), (rb_page S12 (rOK_f E12 p1.2 (by omega)))⟩ (fun r189 S189 p189 => ?_)
    refine po_n (Φ := fun p : Unit × gw_S => (¬ p.2 0 20 = 0 → vp_in (p.2 0 18) 1024)) (fun S192 E192 => ?_)
    exact (fun _ => (rOK_keep (P := fun z => vp_in z 1024) E192 p189.1 (by omega)))
  refine po_if (Φ := fun p : Unit × gw_S => (¬ p.2 0 20 = 0 → vp_in (p.2 0 18) 1024)) (fun h16_22 => ?_) (fun h16_22 => ?_)
  · refine po_b (Φ := fun p : Unit × gw_S => (¬ p.2 0 20 = 0 → vp_in (p.2 0 18) 1024)) (P := fun _ U => vp_in (U 0 18) 1024 ∧ rOK U) ⟨(po_at_Model_draw S12 (rOK_keep (P := fun z => vp_in z 1024) E12 p1.1 (by omega)) (rOK_f E12 p1.2 (by omega))), (po_ok_Model_draw S12 (rOK_keep (P := fun z => vp_in z 1024) E12 p1.1 (by omega)) (rOK_f E12 p1.2 (by omega)))⟩ (fun _ S199 p199 => ?_)
    exact (fun _ => p199.1)
  refine po_if (Φ := fun p : Unit × gw_S => (¬ p.2 0 20 = 0 → vp_in (p.2 0 18) 1024)) (fun h208 => ?_) (fun h208 => ?_)
  · refine po_b (Φ := fun p : Unit × gw_S => (¬ p.2 0 20 = 0 → vp_in (p.2 0 18) 1024)) (P := fun _ U => vp_in (U 0 18) 1024 ∧ rOK U) ⟨(po_at_Model_fails S12 (5 : Int32) (rOK_keep (P := fun z => vp_in z 1024) E12 p1.1 (by omega))), (po_ok_Model_fails S12 (5 : Int32) (rOK_f E12 p1.2 (by omega)))⟩ (fun _ S221 p221 => ?_)
    exact (fun _ => p221.1)
  · refine po_b (Φ := fun p : Unit × gw_S => (¬ p.2 0 20 = 0 → vp_in (p.2 0 18) 1024)) (P := fun _ U => vp_in (U 0 18) 1024 ∧ rOK U) ⟨(po_at_Model_reckon S12 r1 (rOK_keep (P := fun z => vp_in z 1024) E12 p1.1 (by omega))), (po_ok_Model_reckon S12 r1 (rOK_f E12 p1.2 (by omega)))⟩ (fun _ S213 p213 => ?_)
    exact (fun _ => p213.1)
set_option maxHeartbeats 4000000 in
set_option maxRecDepth 100000 in
theorem po_dn_Model_instruct   (S : gw_S)  (hf_at : vp_in (S 0 18) 1024) (hf_ok : rOK S) : (f_Model_instruct S).2 0 14 = (S 0 14) + (1 : Int32) := by
  unfold f_Model_instruct
  refine po_b (Φ := fun p : Unit × gw_S => p.2 0 14 = (S 0 14) + (1 : Int32)) (P := fun r U => vp_in (U 0 18) 1024 ∧ rOK U ∧ U 0 14 = S 0 14) ⟨(po_at_Model_next S hf_at), (po_ok_Model_next S hf_ok), (po_nz_Model_next S rfl)⟩ (fun r1 S1 p1 => ?_)
  refine po_n (Φ := fun p : Unit × gw_S => p.2 0 14 = (S 0 14) + (1 : Int32)) (fun S12 E12 => ?_)
  refine po_if (Φ := fun p : Unit × gw_S => p.2 0 14 = (S 0 14) + (1 : Int32)) (fun h16_9 => ?_) (fun h16_9 => ?_)
  · refine po_b (Φ := fun p : Unit × gw_S => p.2 0 14 = (S 0 14) + (1 : Int32)) (P := fun r U => vp_in (U 0 18) 1024 ∧ rOK U ∧ U 0 14 = ((S 0 14) + (1 : Int32)) ∧ vp_in r 1024) ⟨(po_at_Model_place S12 (rOK_keep (P := fun z => vp_in z 1024) E12 p1.1 (by omega))), (po_ok_Model_place S12 (rOK_f E12 p1.2.1 (by omega))), (po_nz_Model_place S12 (rNz E12 p1.2.2)), (rb_place S12)⟩ (fun r90 S90 p90 => ?_)
    refine po_n (Φ := fun p : Unit × gw_S => p.2 0 14 = (S 0 14) + (1 : Int32)) (fun S93 E93 => ?_)
    exact (rOK_keep (P := fun z => z = ((S 0 14) + (1 : Int32))) E93 p90.2.2.1 (by omega))
  refine po_if (Φ := fun p : Unit × gw_S => p.2 0 14 = (S 0 14) + (1 : Int32)) (fun h16_10 => ?_) (fun h16_10 => ?_)
  · refine po_b (Φ := fun p : Unit × gw_S => p.2 0 14 = (S 0 14) + (1 : Int32)) (P := fun _ U => vp_in (U 0 18) 1024 ∧ rOK U ∧ U 0 14 = ((S 0 14) + (1 : Int32))) ⟨(po_at_Model_call S12 (rOK_keep (P := fun z => vp_in z 1024) E12 p1.1 (by omega)) (rOK_f E12 p1.2.1 (by omega))), (po_ok_Model_call S12 (rOK_keep (P := fun z => vp_in z 1024) E12 p1.1 (by omega)) (rOK_f E12 p1.2.1 (by omega))), (po_nz_Model_call S12 (rNz E12 p1.2.2) (rOK_keep (P := fun z => vp_in z 1024) E12 p1.1 (by omega)) (rOK_f E12 p1.2.1 (by omega)))⟩ (fun _ S100 p100 => ?_)
    exact p100.2.2
  refine po_if (Φ := fun p : Unit × gw_S => p.2 0 14 = (S 0 14) + (1 : Int32)) (fun h16_11 => ?_) (fun h16_11 => ?_)
  · refine po_b (Φ := fun p : Unit × gw_S => p.2 0 14 = (S 0 14) + (1 : Int32)) (P := fun _ U => vp_in (U 0 18) 1024 ∧ rOK U ∧ U 0 14 = ((S 0 14) + (1 : Int32))) ⟨(po_at_Model_back S12 (rOK_keep (P := fun z => vp_in z 1024) E12 p1.1 (by omega)) (rOK_f E12 p1.2.1 (by omega))), (po_ok_Model_back S12 (rOK_f E12 p1.2.1 (by omega))), (po_nz_Model_back S12 (rNz E12 p1.2.2) (rOK_keep (P := fun z => vp_in z 1024) E12 p1.1 (by omega)) (rOK_f E12 p1.2.1 (by omega)))⟩ (fun _ S107 p107 => ?_)
    exact p107.2.2
  refine po_if (Φ := fun p : Unit × gw_S => p.2 0 14 = (S 0 14) + (1 : Int32)) (fun h16_12 => ?_) (fun h16_12 => ?_)
  · refine po_b (Φ := fun p : Unit × gw_S => p.2 0 14 = (S 0 14) + (1 : Int32)) (P := fun _ U => vp_in (U 0 18) 1024 ∧ rOK U ∧ U 0 14 = ((S 0 14) + (1 : Int32))) ⟨(po_at_Model_loop S12 (rOK_keep (P := fun z => vp_in z 1024) E12 p1.1 (by omega))), (po_ok_Model_loop S12 (rOK_f E12 p1.2.1 (by omega))), (po_nz_Model_loop S12 (rNz E12 p1.2.2))⟩ (fun _ S114 p114 => ?_)
    exact p114.2.2
  refine po_if (Φ := fun p : Unit × gw_S => p.2 0 14 = (S 0 14) + (1 : Int32)) (fun h16_13 => ?_) (fun h16_13 => ?_)
  · refine po_b (Φ := fun p : Unit × gw_S => p.2 0 14 = (S 0 14) + (1 : Int32)) (P := fun _ U => vp_in (U 0 18) 1024 ∧ rOK U ∧ U 0 14 = ((S 0 14) + (1 : Int32))) ⟨(po_at_Model_when S12 (rOK_keep (P := fun z => vp_in z 1024) E12 p1.1 (by omega))), (po_ok_Model_when S12 (rOK_f E12 p1.2.1 (by omega))), (po_nz_Model_when S12 (rNz E12 p1.2.2))⟩ (fun _ S121 p121 => ?_)
    exact p121.2.2
  refine po_if (Φ := fun p : Unit × gw_S => p.2 0 14 = (S 0 14) + (1 : Int32)) (fun h16_14 => ?_) (fun h16_14 => ?_)
  · refine po_n (Φ := fun p : Unit × gw_S => p.2 0 14 = (S 0 14) + (1 : Int32)) (fun S129 E129 => ?_)
    exact (rOK_keep (P := fun z => z = ((S 0 14) + (1 : Int32))) E129 (rNz E12 p1.2.2) (by omega))
  refine po_if (Φ := fun p : Unit × gw_S => p.2 0 14 = (S 0 14) + (1 : Int32)) (fun h16_15 => ?_) (fun h16_15 => ?_)
  · refine po_n (Φ := fun p : Unit × gw_S => p.2 0 14 = (S 0 14) + (1 : Int32)) (fun S137 E137 => ?_)
    refine po_n (Φ := fun p : Unit × gw_S => p.2 0 14 = (S 0 14) + (1 : Int32)) (fun S142 E142 => ?_)
    exact (rOK_keep (P := fun z => z = ((S 0 14) + (1 : Int32))) E142 (rOK_keep (P := fun z => z = ((S 0 14) + (1 : Int32))) E137 (rNz E12 p1.2.2) (by omega)) (by omega))
  refine po_if (Φ := fun p : Unit × gw_S => p.2 0 14 = (S 0 14) + (1 : Int32)) (fun h16_16 => ?_) (fun h16_16 => ?_)
  · refine po_b (Φ := fun p : Unit × gw_S => p.2 0 14 = (S 0 14) + (1 : Int32)) (P := fun _ U => vp_in (U 0 18) 1024 ∧ rOK U ∧ U 0 14 = ((S 0 14) + (1 : Int32))) ⟨(po_at_Model_start S12 (rOK_keep (P := fun z => vp_in z 1024) E12 p1.1 (by omega))), (po_ok_Model_start S12 (rOK_f E12 p1.2.1 (by omega))), (po_nz_Model_start S12 (rNz E12 p1.2.2))⟩ (fun _ S149 p149 => ?_)
    exact p149.2.2
  refine po_if (Φ := fun p : Unit × gw_S => p.2 0 14 = (S 0 14) + (1 : Int32)) (fun h16_17 => ?_) (fun h16_17 => ?_)
  · refine po_b (Φ := fun p : Unit × gw_S => p.2 0 14 = (S 0 14) + (1 : Int32)) (P := fun _ U => vp_in (U 0 18) 1024 ∧ rOK U ∧ U 0 14 = ((S 0 14) + (1 : Int32))) ⟨(po_at_Model_each S12 (rOK_keep (P := fun z => vp_in z 1024) E12 p1.1 (by omega))), (po_ok_Model_each S12 (rOK_f E12 p1.2.1 (by omega))), (po_nz_Model_each S12 (rNz E12 p1.2.2))⟩ (fun _ S156 p156 => ?_)
    exact p156.2.2
  refine po_if (Φ := fun p : Unit × gw_S => p.2 0 14 = (S 0 14) + (1 : Int32)) (fun h16_18 => ?_) (fun h16_18 => ?_)
  · refine po_b (Φ := fun p : Unit × gw_S => p.2 0 14 = (S 0 14) + (1 : Int32)) (P := fun r U => vp_in (U 0 18) 1024 ∧ rOK U ∧ U 0 14 = ((S 0 14) + (1 : Int32)) ∧ vp_in r 4) ⟨(po_at_Model_page S12 (rOK_keep (P := fun z => vp_in z 1024) E12 p1.1 (by omega))), (po_ok_Model_page S12 (rOK_f E12 p1.2.1 (by omega)) (rOK_keep (P := fun z => vp_in z 1024) E12 p1.1 (by omega))), (po_nz_Model_page S12 (rNz E12 p1.2.2) (rOK_keep (P := fun z => vp_in z 1024) E12 p1.1 (by omega)) (rOK_f E12 p1.2.1 (by omega))), (rb_page S12 (rOK_f E12 p1.2.1 (by omega)))⟩ (fun r164 S164 p164 => ?_)
    refine po_n (Φ := fun p : Unit × gw_S => p.2 0 14 = (S 0 14) + (1 : Int32)) (fun S167 E167 => ?_)
    exact (rOK_keep (P := fun z => z = ((S 0 14) + (1 : Int32))) E167 p164.2.2.1 (by omega))
  refine po_if (Φ := fun p : Unit × gw_S => p.2 0 14 = (S 0 14) + (1 : Int32)) (fun h16_19 => ?_) (fun h16_19 => ?_)
  · refine po_b (Φ := fun p : Unit × gw_S => p.2 0 14 = (S 0 14) + (1 : Int32)) (P := fun _ U => vp_in (U 0 18) 1024 ∧ rOK U ∧ U 0 14 = ((S 0 14) + (1 : Int32))) ⟨(po_at_Model_fill S12 (rOK_keep (P := fun z => vp_in z 1024) E12 p1.1 (by omega)) (rOK_f E12 p1.2.1 (by omega))), (po_ok_Model_fill S12 (rOK_keep (P := fun z => vp_in z 1024) E12 p1.1 (by omega)) (rOK_f E12 p1.2.1 (by omega))), (po_nz_Model_fill S12 (rNz E12 p1.2.2) (rOK_keep (P := fun z => vp_in z 1024) E12 p1.1 (by omega)) (rOK_f E12 p1.2.1 (by omega)))⟩ (fun _ S174 p174 => ?_)
    exact p174.2.2
  refine po_if (Φ := fun p : Unit × gw_S => p.2 0 14 = (S 0 14) + (1 : Int32)) (fun h16_20 => ?_) (fun h16_20 => ?_)
  · refine po_b (Φ := fun p : Unit × gw_S => p.2 0 14 = (S 0 14) + (1 : Int32)) (P := fun _ U => vp_in (U 0 18) 1024 ∧ rOK U ∧ U 0 14 = ((S 0 14) + (1 : Int32))) ⟨(po_at_Model_copy S12 (rOK_keep (P := fun z => vp_in z 1024) E12 p1.1 (by omega)) (rOK_f E12 p1.2.1 (by omega))), (po_ok_Model_copy S12 (rOK_keep (P := fun z => vp_in z 1024) E12 p1.1 (by omega)) (rOK_f E12 p1.2.1 (by omega))), (po_nz_Model_copy S12 (rNz E12 p1.2.2) (rOK_keep (P := fun z => vp_in z 1024) E12 p1.1 (by omega)) (rOK_f E12 p1.2.1 (by omega)))⟩ (fun _ S181 p181 => ?_)
    exact p181.2.2
  refine po_if (Φ := fun p : Unit × gw_S => p.2 0 14 = (S 0 14) + (1 : Int32)) (fun h16_21 => ?_) (fun h16_21 => ?_)
  · refine po_b (Φ := fun p : Unit × gw_S => p.2 0 14 = (S 0 14) + (1 : Int32)) (P := fun r U => vp_in (U 0 18) 1024 ∧ rOK U ∧ U 0 14 = ((S 0 14) + (1 : Int32)) ∧ vp_in r 4) ⟨(po_at_Model_page S12 (rOK_keep (P := fun z => vp_in z 1024) E12 p1.1 (by omega))), (po_ok_Model_page S12 (rOK_f E12 p1.2.1 (by omega)) (rOK_keep (P := fun z => vp_in z 1024) E12 p1.1 (by omega))), (po_nz_Model_page S12 (rNz E12 p1.2.2) (rOK_keep (P := fun z => vp_in z 1024) E12 p1.1 (by omega)) (rOK_f E12 p1.2.1 (by omega))), (rb_page S12 (rOK_f E12 p1.2.1 (by omega)))⟩ (fun r189 S189 p189 => ?_)
    refine po_n (Φ := fun p : Unit × gw_S => p.2 0 14 = (S 0 14) + (1 : Int32)) (fun S192 E192 => ?_)
    exact (rOK_keep (P := fun z => z = ((S 0 14) + (1 : Int32))) E192 p189.2.2.1 (by omega))
  refine po_if (Φ := fun p : Unit × gw_S => p.2 0 14 = (S 0 14) + (1 : Int32)) (fun h16_22 => ?_) (fun h16_22 => ?_)
  · refine po_b (Φ := fun p : Unit × gw_S => p.2 0 14 = (S 0 14) + (1 : Int32)) (P := fun _ U => vp_in (U 0 18) 1024 ∧ rOK U ∧ U 0 14 = ((S 0 14) + (1 : Int32))) ⟨(po_at_Model_draw S12 (rOK_keep (P := fun z => vp_in z 1024) E12 p1.1 (by omega)) (rOK_f E12 p1.2.1 (by omega))), (po_ok_Model_draw S12 (rOK_keep (P := fun z => vp_in z 1024) E12 p1.1 (by omega)) (rOK_f E12 p1.2.1 (by omega))), (po_nz_Model_draw S12 (rNz E12 p1.2.2) (rOK_keep (P := fun z => vp_in z 1024) E12 p1.1 (by omega)) (rOK_f E12 p1.2.1 (by omega)))⟩ (fun _ S199 p199 => ?_)
    exact p199.2.2
  refine po_if (Φ := fun p : Unit × gw_S => p.2 0 14 = (S 0 14) + (1 : Int32)) (fun h208 => ?_) (fun h208 => ?_)
  · refine po_b (Φ := fun p : Unit × gw_S => p.2 0 14 = (S 0 14) + (1 : Int32)) (P := fun _ U => vp_in (U 0 18) 1024 ∧ rOK U ∧ U 0 14 = ((S 0 14) + (1 : Int32))) ⟨(po_at_Model_fails S12 (5 : Int32) (rOK_keep (P := fun z => vp_in z 1024) E12 p1.1 (by omega))), (po_ok_Model_fails S12 (5 : Int32) (rOK_f E12 p1.2.1 (by omega))), (po_nz_Model_fails S12 (5 : Int32) (rNz E12 p1.2.2))⟩ (fun _ S221 p221 => ?_)
    exact p221.2.2
  · refine po_b (Φ := fun p : Unit × gw_S => p.2 0 14 = (S 0 14) + (1 : Int32)) (P := fun _ U => vp_in (U 0 18) 1024 ∧ rOK U ∧ U 0 14 = ((S 0 14) + (1 : Int32))) ⟨(po_at_Model_reckon S12 r1 (rOK_keep (P := fun z => vp_in z 1024) E12 p1.1 (by omega))), (po_ok_Model_reckon S12 r1 (rOK_f E12 p1.2.1 (by omega))), (po_nz_Model_reckon S12 r1 (rNz E12 p1.2.2))⟩ (fun _ S213 p213 => ?_)
    exact p213.2.2
end
