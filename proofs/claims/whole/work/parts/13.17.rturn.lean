section
variable {l : Launch} {D : va_G} {cI cB cC cZ : ClassId} {ad : Nat → Nat}
noncomputable def fl_Model_turn_27   (a1 : Int32) (a2 : Int32) (n : Nat) : gw_S → Int32 → Unit × gw_S := gw_L1 (fun self S x3 => (if a2 ≤ x3 then (if (S 0 19) ≤ 0 then (gw_n (gw_u S 5 (a1 : Int32).toNatClampNeg (S 0 18)) fun S69 => if (S69 0 19) ≤ 0 then (gw_n (gw_u S69 7 (a1 : Int32).toNatClampNeg (S69 7 (a1 : Int32).toNatClampNeg)) fun S95 => ((), S95)) else (gw_n (gw_u S69 7 (a1 : Int32).toNatClampNeg (S69 0 19)) fun S95 => ((), S95))) else (gw_n (gw_u S 5 (a1 : Int32).toNatClampNeg (-1 : Int32)) fun S69 => if (S69 0 19) ≤ 0 then (gw_n (gw_u S69 7 (a1 : Int32).toNatClampNeg (S69 7 (a1 : Int32).toNatClampNeg)) fun S95 => ((), S95)) else (gw_n (gw_u S69 7 (a1 : Int32).toNatClampNeg (S69 0 19)) fun S95 => ((), S95)))) else (if (S 0 20) = 0 then (if (S 0 19) ≤ 0 then (gw_n (gw_u S 5 (a1 : Int32).toNatClampNeg (S 0 18)) fun S69 => if (S69 0 19) ≤ 0 then (gw_n (gw_u S69 7 (a1 : Int32).toNatClampNeg (S69 7 (a1 : Int32).toNatClampNeg)) fun S95 => ((), S95)) else (gw_n (gw_u S69 7 (a1 : Int32).toNatClampNeg (S69 0 19)) fun S95 => ((), S95))) else (gw_n (gw_u S 5 (a1 : Int32).toNatClampNeg (-1 : Int32)) fun S69 => if (S69 0 19) ≤ 0 then (gw_n (gw_u S69 7 (a1 : Int32).toNatClampNeg (S69 7 (a1 : Int32).toNatClampNeg)) fun S95 => ((), S95)) else (gw_n (gw_u S69 7 (a1 : Int32).toNatClampNeg (S69 0 19)) fun S95 => ((), S95)))) else (gw_b (f_Model_instruct S) fun _ S40 => (self S40 (x3 + (1 : Int32))))))) (fun S _ => ((), S)) n
set_option maxHeartbeats 4000000 in
set_option maxRecDepth 100000 in
theorem l_Model_turn_27 {X : gx_M} {A : Nat → Prop}  (F : gw_F X l prog_8_method_28_code 4 none "StageMachineModel" gTs (gw_rm 7) D gCl (gTys cI cB cC cZ) 20 ad A) (a1 : Int32) (a2 : Int32) (hb1 : vp_in a1 16) : ∀ (n : Nat) (S : gw_S) (x3 : Int32), 0 < n → (a2 : Int32).toInt - x3.toInt < (n : Int) → rOK S → rAd (S 0 18) → (¬ S 0 20 = 0 → vp_in (S 0 18) 1024) → gw_V X (gw_P D gCl 20 ad (rE ad cI cB cZ)) A 4 gw_rV S 27 [(0, .ref (ad 0)), (1, .int a1), (2, .int a2), (3, .int x3)] [] (fl_Model_turn_27 a1 a2 n S x3) := by
  intro n
  induction n with
  | zero => intro S x3 hn hf hf_ok hf_ad hf_on; exact absurd hn (Nat.lt_irrefl 0)
  | succ n ih =>
    intro S x3 hn hf hf_ok hf_ad hf_on
    refine gw_iload_n (pc := 27) F 3 d_Model_turn_27 rfl rfl ?_
    refine gw_iload_n (pc := 28) F 2 d_Model_turn_28 rfl rfl ?_
    refine gw_icmp_geS (pc := 29) (tgt := 49) F d_Model_turn_29 (by decide) (fun h29 => ?_) (fun h29 => ?_)
    · refine gw_aload_n (pc := 49) F 0 d_Model_turn_49 rfl rfl ?_
      refine rg_Model_address (pc := 50) F tw_413 d_Model_turn_50 ?_
      refine gw_iload_n (pc := 53) F 1 d_Model_turn_53 rfl rfl ?_
      refine gw_aload_n (pc := 54) F 0 d_Model_turn_54 rfl rfl ?_
      refine rg_Model_fault (pc := 55) F tw_426 d_Model_turn_55 ?_
      refine gw_if_leS (pc := 58) (tgt := 65) F d_Model_turn_58 (by decide) (fun h58 => ?_) (fun h58 => ?_)
      · refine gw_aload_n (pc := 65) F 0 d_Model_turn_65 rfl rfl ?_
        refine rg_Model_at (pc := 66) F tw_425 d_Model_turn_66 ?_
        refine rs_MAdr (pc := 69) F hb1 d_Model_turn_69 ?_
        refine gw_nS (fun S69 E69 => ?_)
        refine gw_aload_n (pc := 70) F 0 d_Model_turn_70 rfl rfl ?_
        refine rg_Model_faults (pc := 71) F tw_415 d_Model_turn_71 ?_
        refine gw_iload_n (pc := 74) F 1 d_Model_turn_74 rfl rfl ?_
        refine gw_aload_n (pc := 75) F 0 d_Model_turn_75 rfl rfl ?_
        refine rg_Model_fault (pc := 76) F tw_426 d_Model_turn_76 ?_
        refine gw_if_leS (pc := 79) (tgt := 89) F d_Model_turn_79 (by decide) (fun h79 => ?_) (fun h79 => ?_)
        · refine gw_aload_n (pc := 89) F 0 d_Model_turn_89 rfl rfl ?_
          refine rg_Model_faults (pc := 90) F tw_415 d_Model_turn_90 ?_
          refine gw_iload_n (pc := 93) F 1 d_Model_turn_93 rfl rfl ?_
          refine rl_MFlt (pc := 94) F hb1 d_Model_turn_94 ?_
          refine rs_MFlt (pc := 95) F hb1 d_Model_turn_95 ?_
          refine gw_nS (fun S95 E95 => ?_)
          exact gw_vret (pc := 96) F d_Model_turn_96
        · refine gw_aload_n (pc := 82) F 0 d_Model_turn_82 rfl rfl ?_
          refine rg_Model_fault (pc := 83) F tw_426 d_Model_turn_83 ?_
          refine gw_goto (pc := 86) (tgt := 95) F d_Model_turn_86 (by decide) ?_
          refine rs_MFlt (pc := 95) F hb1 d_Model_turn_95 ?_
          refine gw_nS (fun S95 E95 => ?_)
          exact gw_vret (pc := 96) F d_Model_turn_96
      · refine gw_iconst (pc := 61) (v := (-1 : Int32)) F d_Model_turn_61 (by decide) ?_
        refine gw_goto (pc := 62) (tgt := 69) F d_Model_turn_62 (by decide) ?_
        refine rs_MAdr (pc := 69) F hb1 d_Model_turn_69 ?_
        refine gw_nS (fun S69 E69 => ?_)
        refine gw_aload_n (pc := 70) F 0 d_Model_turn_70 rfl rfl ?_
        refine rg_Model_faults (pc := 71) F tw_415 d_Model_turn_71 ?_
        refine gw_iload_n (pc := 74) F 1 d_Model_turn_74 rfl rfl ?_
        refine gw_aload_n (pc := 75) F 0 d_Model_turn_75 rfl rfl ?_
        refine rg_Model_fault (pc := 76) F tw_426 d_Model_turn_76 ?_
        refine gw_if_leS (pc := 79) (tgt := 89) F d_Model_turn_79 (by decide) (fun h79 => ?_) (fun h79 => ?_)
        · refine gw_aload_n (pc := 89) F 0 d_Model_turn_89 rfl rfl ?_
          refine rg_Model_faults (pc := 90) F tw_415 d_Model_turn_90 ?_
          refine gw_iload_n (pc := 93) F 1 d_Model_turn_93 rfl rfl ?_
          refine rl_MFlt (pc := 94) F hb1 d_Model_turn_94 ?_
          refine rs_MFlt (pc := 95) F hb1 d_Model_turn_95 ?_
          refine gw_nS (fun S95 E95 => ?_)
          exact gw_vret (pc := 96) F d_Model_turn_96
        · refine gw_aload_n (pc := 82) F 0 d_Model_turn_82 rfl rfl ?_
          refine rg_Model_fault (pc := 83) F tw_426 d_Model_turn_83 ?_
          refine gw_goto (pc := 86) (tgt := 95) F d_Model_turn_86 (by decide) ?_
          refine rs_MFlt (pc := 95) F hb1 d_Model_turn_95 ?_
          refine gw_nS (fun S95 E95 => ?_)
          exact gw_vret (pc := 96) F d_Model_turn_96
    · refine gw_aload_n (pc := 32) F 0 d_Model_turn_32 rfl rfl ?_
      refine rg_Model_on (pc := 33) F tw_427 d_Model_turn_33 ?_
      refine gw_if_eqS (pc := 36) (tgt := 49) F d_Model_turn_36 (by decide) (fun h36 => ?_) (fun h36 => ?_)
      · refine gw_aload_n (pc := 49) F 0 d_Model_turn_49 rfl rfl ?_
        refine rg_Model_address (pc := 50) F tw_413 d_Model_turn_50 ?_
        refine gw_iload_n (pc := 53) F 1 d_Model_turn_53 rfl rfl ?_
        refine gw_aload_n (pc := 54) F 0 d_Model_turn_54 rfl rfl ?_
        refine rg_Model_fault (pc := 55) F tw_426 d_Model_turn_55 ?_
        refine gw_if_leS (pc := 58) (tgt := 65) F d_Model_turn_58 (by decide) (fun h58 => ?_) (fun h58 => ?_)
        · refine gw_aload_n (pc := 65) F 0 d_Model_turn_65 rfl rfl ?_
          refine rg_Model_at (pc := 66) F tw_425 d_Model_turn_66 ?_
          refine rs_MAdr (pc := 69) F hb1 d_Model_turn_69 ?_
          refine gw_nS (fun S69 E69 => ?_)
          refine gw_aload_n (pc := 70) F 0 d_Model_turn_70 rfl rfl ?_
          refine rg_Model_faults (pc := 71) F tw_415 d_Model_turn_71 ?_
          refine gw_iload_n (pc := 74) F 1 d_Model_turn_74 rfl rfl ?_
          refine gw_aload_n (pc := 75) F 0 d_Model_turn_75 rfl rfl ?_
          refine rg_Model_fault (pc := 76) F tw_426 d_Model_turn_76 ?_
          refine gw_if_leS (pc := 79) (tgt := 89) F d_Model_turn_79 (by decide) (fun h79 => ?_) (fun h79 => ?_)
          · refine gw_aload_n (pc := 89) F 0 d_Model_turn_89 rfl rfl ?_
            refine rg_Model_faults (pc := 90) F tw_415 d_Model_turn_90 ?_
            refine gw_iload_n (pc := 93) F 1 d_Model_turn_93 rfl rfl ?_
            refine rl_MFlt (pc := 94) F hb1 d_Model_turn_94 ?_
            refine rs_MFlt (pc := 95) F hb1 d_Model_turn_95 ?_
            refine gw_nS (fun S95 E95 => ?_)
            exact gw_vret (pc := 96) F d_Model_turn_96
          · refine gw_aload_n (pc := 82) F 0 d_Model_turn_82 rfl rfl ?_
            refine rg_Model_fault (pc := 83) F tw_426 d_Model_turn_83 ?_
            refine gw_goto (pc := 86) (tgt := 95) F d_Model_turn_86 (by decide) ?_
            refine rs_MFlt (pc := 95) F hb1 d_Model_turn_95 ?_
            refine gw_nS (fun S95 E95 => ?_)
            exact gw_vret (pc := 96) F d_Model_turn_96
        · refine gw_iconst (pc := 61) (v := (-1 : Int32)) F d_Model_turn_61 (by decide) ?_
          refine gw_goto (pc := 62) (tgt := 69) F d_Model_turn_62 (by decide) ?_
          refine rs_MAdr (pc := 69) F hb1 d_Model_turn_69 ?_
          refine gw_nS (fun S69 E69 => ?_)
          refine gw_aload_n (pc := 70) F 0 d_Model_turn_70 rfl rfl ?_
          refine rg_Model_faults (pc := 71) F tw_415 d_Model_turn_71 ?_
          refine gw_iload_n (pc := 74) F 1 d_Model_turn_74 rfl rfl ?_
          refine gw_aload_n (pc := 75) F 0 d_Model_turn_75 rfl rfl ?_
          refine rg_Model_fault (pc := 76) F tw_426 d_Model_turn_76 ?_
          refine gw_if_leS (pc := 79) (tgt := 89) F d_Model_turn_79 (by decide) (fun h79 => ?_) (fun h79 => ?_)
          · refine gw_aload_n (pc := 89) F 0 d_Model_turn_89 rfl rfl ?_
            refine rg_Model_faults (pc := 90) F tw_415 d_Model_turn_90 ?_
            refine gw_iload_n (pc := 93) F 1 d_Model_turn_93 rfl rfl ?_
            refine rl_MFlt (pc := 94) F hb1 d_Model_turn_94 ?_
            refine rs_MFlt (pc := 95) F hb1 d_Model_turn_95 ?_
            refine gw_nS (fun S95 E95 => ?_)
            exact gw_vret (pc := 96) F d_Model_turn_96
          · refine gw_aload_n (pc := 82) F 0 d_Model_turn_82 rfl rfl ?_
            refine rg_Model_fault (pc := 83) F tw_426 d_Model_turn_83 ?_
            refine gw_goto (pc := 86) (tgt := 95) F d_Model_turn_86 (by decide) ?_
            refine rs_MFlt (pc := 95) F hb1 d_Model_turn_95 ?_
            refine gw_nS (fun S95 E95 => ?_)
            exact gw_vret (pc := 96) F d_Model_turn_96
      · refine gw_aload_n (pc := 39) F 0 d_Model_turn_39 rfl rfl ?_
        refine gw_cV (pc := 40) (As := []) (rest := []) F (c_Model_instruct (gw_FJ F) S (hf_on h36) hf_ok) cw_Model_instruct cv_Model_instruct tw_546 rfl (by decide) (by decide) (by decide) rE_Model rfl rfl rfl rfl (Nat.le_of_ble_eq_true rfl) d_Model_turn_40 (gw_bV (P := fun _ U => rOK U ∧ rAd (U 0 18) ∧ (¬ U 0 20 = 0 → vp_in (U 0 18) 1024)) ⟨(po_ok_Model_instruct S (hf_on h36) hf_ok), (po_ad_Model_instruct S (hf_on h36) hf_ok), (po_on_Model_instruct S (hf_on h36) hf_ok)⟩ (fun _ S40 p40 => ?_))
        refine gw_iinc (pc := 43) (v := (x3 + (1 : Int32))) (lv' := [(3, .int (x3 + (1 : Int32))), (0, .ref (ad 0)), (1, .int a1), (2, .int a2)]) F 3 d_Model_turn_43 rfl (congrArg (HAdd.hAdd x3) (by decide)) (by decide) rfl ?_
        refine gw_goto (pc := 46) (tgt := 27) F d_Model_turn_46 (by decide) ?_
        refine gw_lvs (lv' := [(0, .ref (ad 0)), (1, .int a1), (2, .int a2), (3, .int (x3 + (1 : Int32)))]) [1, 2, 3, 0] rfl ?_
        exact ih S40 (x3 + (1 : Int32)) (gw_stp h29 hf).1 (gw_stp h29 hf).2.1 p40.1 p40.2.1 p40.2.2
noncomputable def f_Model_turn   (S : gw_S) (a1 : Int32) (a2 : Int32) : Unit × gw_S := (gw_n (gw_u S 0 17 a1) fun S2 => gw_n (gw_u S2 0 18 (S2 5 (a1 : Int32).toNatClampNeg)) fun S12 => gw_n (gw_u S12 0 19 (0 : Int32)) fun S17 => gw_n (gw_u S17 0 20 (1 : Int32)) fun S22 => (fl_Model_turn_27 a1 a2 (gw_fu ((a2 : Int32).toInt - ((0 : Int32) : Int32).toInt)) S22 (0 : Int32)))
set_option maxHeartbeats 4000000 in
set_option maxRecDepth 100000 in
theorem c_Model_turn (hJ : gw_J 20 ad)   (S : gw_S) (a1 : Int32) (a2 : Int32) (hf_ok : rOK S) (hb1 : vp_in a1 16) (hk : ¬ S 5 (a1 : Int32).toNatClampNeg = (-1 : Int32)) : gw_M l y_Model_turn prog_8_method_28_code 4 none gTs (gw_rm 7) D gCl (gTys cI cB cC cZ) 20 ad (rE ad cI cB cZ) gw_rV [.ref (ad 0), .int a1, .int a2] S (f_Model_turn S a1 a2) := by
  refine gw_start gTs_ok (plainFor_of_name (by decide)) hJ (Nat.le_of_ble_eq_true rfl) (fun X A F => ?_)
  refine gw_lve (lv' := [(0, .ref (ad 0)), (1, .int a1), (2, .int a2)]) rfl ?_
  unfold f_Model_turn
  refine gw_aload_n (pc := 0) F 0 d_Model_turn_0 rfl rfl ?_
  refine gw_iload_n (pc := 1) F 1 d_Model_turn_1 rfl rfl ?_
  refine rp_Model_who (pc := 2) F tw_424 d_Model_turn_2 ?_
  refine gw_nS (fun S2 E2 => ?_)
  refine gw_aload_n (pc := 5) F 0 d_Model_turn_5 rfl rfl ?_
  refine gw_aload_n (pc := 6) F 0 d_Model_turn_6 rfl rfl ?_
  refine rg_Model_address (pc := 7) F tw_413 d_Model_turn_7 ?_
  refine gw_iload_n (pc := 10) F 1 d_Model_turn_10 rfl rfl ?_
  refine rl_MAdr (pc := 11) F hb1 d_Model_turn_11 ?_
  refine rp_Model_at (pc := 12) F tw_425 d_Model_turn_12 ?_
  refine gw_nS (fun S12 E12 => ?_)
  refine gw_aload_n (pc := 15) F 0 d_Model_turn_15 rfl rfl ?_
  refine gw_iconst (pc := 16) (v := (0 : Int32)) F d_Model_turn_16 (by decide) ?_
  refine rp_Model_fault (pc := 17) F tw_426 d_Model_turn_17 ?_
  refine gw_nS (fun S17 E17 => ?_)
  refine gw_aload_n (pc := 20) F 0 d_Model_turn_20 rfl rfl ?_
  refine gw_iconst (pc := 21) (v := (1 : Int32)) F d_Model_turn_21 (by decide) ?_
  refine rp_Model_on (pc := 22) F tw_427 d_Model_turn_22 rfl rfl ?_
  refine gw_nS (fun S22 E22 => ?_)
  refine gw_iconst (pc := 25) (v := (0 : Int32)) F d_Model_turn_25 (by decide) ?_
  refine gw_istore_n (pc := 26) (lv' := [(3, .int (0 : Int32)), (0, .ref (ad 0)), (1, .int a1), (2, .int a2)]) F d_Model_turn_26 rfl (by decide) rfl ?_
  refine gw_lvs (lv' := [(0, .ref (ad 0)), (1, .int a1), (2, .int a2), (3, .int (0 : Int32))]) [1, 2, 3, 0] rfl ?_
  exact l_Model_turn_27  F a1 a2 hb1 (gw_fu ((a2 : Int32).toInt - ((0 : Int32) : Int32).toInt)) S22 (0 : Int32) (gw_fu_pos _) (gw_fu_lt _) (rOK_f E22 (rOK_f E17 (rOK_f E12 (rOK_who E2 hf_ok hb1) (by omega)) (by omega)) (by omega)) (rAd_in (rOK_keep (P := fun z => vp_in z 1024) E22 (rOK_keep (P := fun z => vp_in z 1024) E17 (rAt_set E12 (rb_turn E2 hf_ok hk)) (by omega)) (by omega))) (fun _ => (rOK_keep (P := fun z => vp_in z 1024) E22 (rOK_keep (P := fun z => vp_in z 1024) E17 (rAt_set E12 (rb_turn E2 hf_ok hk)) (by omega)) (by omega)))
set_option maxHeartbeats 4000000 in
set_option maxRecDepth 100000 in
theorem pl_ok_Model_turn_27  (a1 : Int32) (a2 : Int32) (hb1 : vp_in a1 16) : ∀ (n : Nat) (S : gw_S) (x3 : Int32), 0 < n → (a2 : Int32).toInt - x3.toInt < (n : Int) → rOK S → rAd (S 0 18) → (¬ S 0 20 = 0 → vp_in (S 0 18) 1024) → rOK (fl_Model_turn_27 a1 a2 n S x3).2 := by
  intro n
  induction n with
  | zero => intro S x3 hn hf hf_ok hf_ad hf_on; exact absurd hn (Nat.lt_irrefl 0)
  | succ n ih =>
    intro S x3 hn hf hf_ok hf_ad hf_on
    refine po_if (Φ := fun p : Unit × gw_S => rOK p.2) (fun h29 => ?_) (fun h29 => ?_)
    · refine po_if (Φ := fun p : Unit × gw_S => rOK p.2) (fun h58 => ?_) (fun h58 => ?_)
      · refine po_n (Φ := fun p : Unit × gw_S => rOK p.2) (fun S69 E69 => ?_)
        refine po_if (Φ := fun p : Unit × gw_S => rOK p.2) (fun h79 => ?_) (fun h79 => ?_)
        · refine po_n (Φ := fun p : Unit × gw_S => rOK p.2) (fun S95 E95 => ?_)
          exact (rOK_c E95 (rOK_ad E69 hf_ok hf_ad) (by omega))
        · refine po_n (Φ := fun p : Unit × gw_S => rOK p.2) (fun S95 E95 => ?_)
          exact (rOK_c E95 (rOK_ad E69 hf_ok hf_ad) (by omega))
      · refine po_n (Φ := fun p : Unit × gw_S => rOK p.2) (fun S69 E69 => ?_)
        refine po_if (Φ := fun p : Unit × gw_S => rOK p.2) (fun h79 => ?_) (fun h79 => ?_)
        · refine po_n (Φ := fun p : Unit × gw_S => rOK p.2) (fun S95 E95 => ?_)
          exact (rOK_c E95 (rOK_ad E69 hf_ok (by unfold rAd; decide)) (by omega))
        · refine po_n (Φ := fun p : Unit × gw_S => rOK p.2) (fun S95 E95 => ?_)
          exact (rOK_c E95 (rOK_ad E69 hf_ok (by unfold rAd; decide)) (by omega))
    · refine po_if (Φ := fun p : Unit × gw_S => rOK p.2) (fun h36 => ?_) (fun h36 => ?_)
      · refine po_if (Φ := fun p : Unit × gw_S => rOK p.2) (fun h58 => ?_) (fun h58 => ?_)
        · refine po_n (Φ := fun p : Unit × gw_S => rOK p.2) (fun S69 E69 => ?_)
          refine po_if (Φ := fun p : Unit × gw_S => rOK p.2) (fun h79 => ?_) (fun h79 => ?_)
          · refine po_n (Φ := fun p : Unit × gw_S => rOK p.2) (fun S95 E95 => ?_)
            exact (rOK_c E95 (rOK_ad E69 hf_ok hf_ad) (by omega))
          · refine po_n (Φ := fun p : Unit × gw_S => rOK p.2) (fun S95 E95 => ?_)
            exact (rOK_c E95 (rOK_ad E69 hf_ok hf_ad) (by omega))
        · refine po_n (Φ := fun p : Unit × gw_S => rOK p.2) (fun S69 E69 => ?_)
          refine po_if (Φ := fun p : Unit × gw_S => rOK p.2) (fun h79 => ?_) (fun h79 => ?_)
          · refine po_n (Φ := fun p : Unit × gw_S => rOK p.2) (fun S95 E95 => ?_)
            exact (rOK_c E95 (rOK_ad E69 hf_ok (by unfold rAd; decide)) (by omega))
          · refine po_n (Φ := fun p : Unit × gw_S => rOK p.2) (fun S95 E95 => ?_)
            exact (rOK_c E95 (rOK_ad E69 hf_ok (by unfold rAd; decide)) (by omega))
      · refine po_b (Φ := fun p : Unit × gw_S => rOK p.2) (P := fun _ U => rOK U ∧ rAd (U 0 18) ∧ (¬ U 0 20 = 0 → vp_in (U 0 18) 1024)) ⟨(po_ok_Model_instruct S (hf_on h36) hf_ok), (po_ad_Model_instruct S (hf_on h36) hf_ok), (po_on_Model_instruct S (hf_on h36) hf_ok)⟩ (fun _ S40 p40 => ?_)
        exact ih S40 (x3 + (1 : Int32)) (gw_stp h29 hf).1 (gw_stp h29 hf).2.1 p40.1 p40.2.1 p40.2.2
set_option maxHeartbeats 4000000 in
set_option maxRecDepth 100000 in
theorem po_ok_Model_turn   (S : gw_S) (a1 : Int32) (a2 : Int32) (hf_ok : rOK S) (hb1 : vp_in a1 16) (hk : ¬ S 5 (a1 : Int32).toNatClampNeg = (-1 : Int32)) : rOK (f_Model_turn S a1 a2).2 := by
  unfold f_Model_turn
  refine po_n (Φ := fun p : Unit × gw_S => rOK p.2) (fun S2 E2 => ?_)
  refine po_n (Φ := fun p : Unit × gw_S => rOK p.2) (fun S12 E12 => ?_)
  refine po_n (Φ := fun p : Unit × gw_S => rOK p.2) (fun S17 E17 => ?_)
  refine po_n (Φ := fun p : Unit × gw_S => rOK p.2) (fun S22 E22 => ?_)
  exact pl_ok_Model_turn_27 a1 a2 hb1 (gw_fu ((a2 : Int32).toInt - ((0 : Int32) : Int32).toInt)) S22 (0 : Int32) (gw_fu_pos _) (gw_fu_lt _) (rOK_f E22 (rOK_f E17 (rOK_f E12 (rOK_who E2 hf_ok hb1) (by omega)) (by omega)) (by omega)) (rAd_in (rOK_keep (P := fun z => vp_in z 1024) E22 (rOK_keep (P := fun z => vp_in z 1024) E17 (rAt_set E12 (rb_turn E2 hf_ok hk)) (by omega)) (by omega))) (fun _ => (rOK_keep (P := fun z => vp_in z 1024) E22 (rOK_keep (P := fun z => vp_in z 1024) E17 (rAt_set E12 (rb_turn E2 hf_ok hk)) (by omega)) (by omega)))
noncomputable def fl_Model_frame_46   (a1 : Int32) (n : Nat) : gw_S → Int32 → Int32 → Int32 × gw_S := gw_L2 (fun self S x2 x3 => (if (16 : Int32) ≤ x3 then ((x2, S)) else (if (S 5 (x3 : Int32).toNatClampNeg) = (-1 : Int32) then (self S x2 (x3 + (1 : Int32))) else (if (S 10 (x3 : Int32).toNatClampNeg) = 0 then (gw_b (f_Model_turn S x3 a1) fun _ S74 => (self S74 (x2 + (1 : Int32)) (x3 + (1 : Int32)))) else (self S x2 (x3 + (1 : Int32))))))) (fun S _ _ => (0, S)) n
set_option maxHeartbeats 4000000 in
set_option maxRecDepth 100000 in
theorem l_Model_frame_46 {X : gx_M} {A : Nat → Prop}  (F : gw_F X l prog_8_method_30_code 4 (some .int) "StageMachineModel" gTs (gw_rm 8) D gCl (gTys cI cB cC cZ) 20 ad A) (a1 : Int32) : ∀ (n : Nat) (S : gw_S) (x2 x3 : Int32), 0 < n → ((16 : Int32) : Int32).toInt - x3.toInt < (n : Int) → 0 ≤ x3.toInt → rOK S → gw_V X (gw_P D gCl 20 ad (rE ad cI cB cZ)) A 4 gw_rI S 46 [(0, .ref (ad 0)), (1, .int a1), (2, .int x2), (3, .int x3)] [] (fl_Model_frame_46 a1 n S x2 x3) := by
  intro n
  induction n with
  | zero => intro S x2 x3 hn hf h0 hf_ok; exact absurd hn (Nat.lt_irrefl 0)
  | succ n ih =>
    intro S x2 x3 hn hf h0 hf_ok
    refine gw_iload_n (pc := 46) F 3 d_Model_frame_46 rfl rfl ?_
    refine gw_bipush (pc := 47) (v := (16 : Int32)) F d_Model_frame_47 (by decide) ?_
    refine gw_icmp_geS (pc := 49) (tgt := 86) F d_Model_frame_49 (by decide) (fun h49 => ?_) (fun h49 => ?_)
    · refine gw_iload_n (pc := 86) F 2 d_Model_frame_86 rfl rfl ?_
      exact gw_iret (pc := 87) F d_Model_frame_87
    · refine gw_aload_n (pc := 52) F 0 d_Model_frame_52 rfl rfl ?_
      refine rg_Model_address (pc := 53) F tw_413 d_Model_frame_53 ?_
      refine gw_iload_n (pc := 56) F 3 d_Model_frame_56 rfl rfl ?_
      refine rl_MAdr (pc := 57) F (gw_inB (N := 16) (by decide) h49 h0) d_Model_frame_57 ?_
      refine gw_iconst (pc := 58) (v := (-1 : Int32)) F d_Model_frame_58 (by decide) ?_
      refine gw_icmp_eqS (pc := 59) (tgt := 80) F d_Model_frame_59 (by decide) (fun h59 => ?_) (fun h59 => ?_)
      · refine gw_iinc (pc := 80) (v := (x3 + (1 : Int32))) (lv' := [(3, .int (x3 + (1 : Int32))), (0, .ref (ad 0)), (1, .int a1), (2, .int x2)]) F 3 d_Model_frame_80 rfl (congrArg (HAdd.hAdd x3) (by decide)) (by decide) rfl ?_
        refine gw_goto (pc := 83) (tgt := 46) F d_Model_frame_83 (by decide) ?_
        refine gw_lvs (lv' := [(0, .ref (ad 0)), (1, .int a1), (2, .int x2), (3, .int (x3 + (1 : Int32)))]) [1, 2, 3, 0] rfl ?_
        exact ih S x2 (x3 + (1 : Int32)) (gw_stp h49 hf).1 (gw_stp h49 hf).2.1 (gw_stp0 h49 h0) hf_ok
      · refine gw_aload_n (pc := 62) F 0 d_Model_frame_62 rfl rfl ?_
        refine rg_Model_paused (pc := 63) F tw_418 d_Model_frame_63 ?_
        refine gw_iload_n (pc := 66) F 3 d_Model_frame_66 rfl rfl ?_
        refine rl_MPau (pc := 67) F (gw_inB (N := 16) (by decide) h49 h0) d_Model_frame_67 ?_
        refine gw_if_neS (pc := 68) (tgt := 80) F d_Model_frame_68 (by decide) (fun h68 => ?_) (fun h68 => ?_)
        · refine gw_iinc (pc := 80) (v := (x3 + (1 : Int32))) (lv' := [(3, .int (x3 + (1 : Int32))), (0, .ref (ad 0)), (1, .int a1), (2, .int x2)]) F 3 d_Model_frame_80 rfl (congrArg (HAdd.hAdd x3) (by decide)) (by decide) rfl ?_
          refine gw_goto (pc := 83) (tgt := 46) F d_Model_frame_83 (by decide) ?_
          refine gw_lvs (lv' := [(0, .ref (ad 0)), (1, .int a1), (2, .int x2), (3, .int (x3 + (1 : Int32)))]) [1, 2, 3, 0] rfl ?_
          exact ih S x2 (x3 + (1 : Int32)) (gw_stp h49 hf).1 (gw_stp h49 hf).2.1 (gw_stp0 h49 h0) hf_ok
        · refine gw_aload_n (pc := 71) F 0 d_Model_frame_71 rfl rfl ?_
          refine gw_iload_n (pc := 72) F 3 d_Model_frame_72 rfl rfl ?_
          refine gw_iload_n (pc := 73) F 1 d_Model_frame_73 rfl rfl ?_
          refine gw_cV (pc := 74) (As := [.int x3, .int a1]) (rest := []) F (c_Model_turn (gw_FJ F) S x3 a1 hf_ok (gw_inB (N := 16) (by decide) h49 h0) h59) cw_Model_turn cv_Model_turn tw_542 rfl (by decide) (by decide) (by decide) rE_Model rfl rfl rfl rfl (Nat.le_of_ble_eq_true rfl) d_Model_frame_74 (gw_bV (P := fun _ U => rOK U) (po_ok_Model_turn S x3 a1 hf_ok (gw_inB (N := 16) (by decide) h49 h0) h59) (fun _ S74 p74 => ?_))
          refine gw_iinc (pc := 77) (v := (x2 + (1 : Int32))) (lv' := [(2, .int (x2 + (1 : Int32))), (0, .ref (ad 0)), (1, .int a1), (3, .int x3)]) F 2 d_Model_frame_77 rfl (congrArg (HAdd.hAdd x2) (by decide)) (by decide) rfl ?_
          refine gw_iinc (pc := 80) (v := (x3 + (1 : Int32))) (lv' := [(3, .int (x3 + (1 : Int32))), (2, .int (x2 + (1 : Int32))), (0, .ref (ad 0)), (1, .int a1)]) F 3 d_Model_frame_80 rfl (congrArg (HAdd.hAdd x3) (by decide)) (by decide) rfl ?_
          refine gw_goto (pc := 83) (tgt := 46) F d_Model_frame_83 (by decide) ?_
          refine gw_lvs (lv' := [(0, .ref (ad 0)), (1, .int a1), (2, .int (x2 + (1 : Int32))), (3, .int (x3 + (1 : Int32)))]) [2, 3, 1, 0] rfl ?_
          exact ih S74 (x2 + (1 : Int32)) (x3 + (1 : Int32)) (gw_stp h49 hf).1 (gw_stp h49 hf).2.1 (gw_stp0 h49 h0) p74
noncomputable def f_Model_frame   (S : gw_S) (a1 : Int32) : Int32 × gw_S := (gw_b (f_Model_in S a1 (1 : Int32) (500 : Int32)) fun r5 S5 => if r5 = 0 then (((-1 : Int32), S5)) else (gw_n (gw_u S5 0 13 ((S5 0 13) + (1 : Int32))) fun S20 => gw_n (gw_u S20 0 14 (0 : Int32)) fun S25 => gw_n (gw_u S25 0 15 (0 : Int32)) fun S30 => gw_n (gw_u S30 0 16 (0 : Int32)) fun S35 => gw_b (f_Model_settle S35) fun _ S39 => (fl_Model_frame_46 a1 (gw_fu (((16 : Int32) : Int32).toInt - ((0 : Int32) : Int32).toInt)) S39 (0 : Int32) (0 : Int32))))
set_option maxHeartbeats 4000000 in
set_option maxRecDepth 100000 in
theorem c_Model_frame (hJ : gw_J 20 ad)   (S : gw_S) (a1 : Int32) (hf_ok : rOK S) : gw_M l y_Model_frame prog_8_method_30_code 4 (some .int) gTs (gw_rm 8) D gCl (gTys cI cB cC cZ) 20 ad (rE ad cI cB cZ) gw_rI [.ref (ad 0), .int a1] S (f_Model_frame S a1) := by
  refine gw_start gTs_ok (plainFor_of_name (by decide)) hJ (Nat.le_of_ble_eq_true rfl) (fun X A F => ?_)
  refine gw_lve (lv' := [(0, .ref (ad 0)), (1, .int a1)]) rfl ?_
  unfold f_Model_frame
  refine gw_iload_n (pc := 0) F 1 d_Model_frame_0 rfl rfl ?_
  refine gw_iconst (pc := 1) (v := (1 : Int32)) F d_Model_frame_1 (by decide) ?_
  refine gw_sipush (pc := 2) (v := (500 : Int32)) F d_Model_frame_2 (by decide) ?_
  refine gw_cS (pc := 5) (As := [.int a1, .int (1 : Int32), .int (500 : Int32)]) (rest := []) F (c_Model_in (gw_FJ F) S a1 (1 : Int32) (500 : Int32)) cw_Model_in cv_Model_in tw_512 rfl (by decide) (by decide) rfl rfl (Nat.le_of_ble_eq_true rfl) d_Model_frame_5 (gw_bI (P := fun r U => rOK U) (po_ok_Model_in S a1 (1 : Int32) (500 : Int32) hf_ok) (fun r5 S5 p5 => ?_))
  refine gw_if_neS (pc := 8) (tgt := 13) F d_Model_frame_8 (by decide) (fun h8 => ?_) (fun h8 => ?_)
  · refine gw_aload_n (pc := 13) F 0 d_Model_frame_13 rfl rfl ?_
    refine gw_dup (pc := 14) F d_Model_frame_14 rfl ?_
    refine rg_Model_frames (pc := 15) F tw_420 d_Model_frame_15 ?_
    refine gw_iconst (pc := 18) (v := (1 : Int32)) F d_Model_frame_18 (by decide) ?_
    refine gw_iadd (pc := 19) F d_Model_frame_19 ?_
    refine rp_Model_frames (pc := 20) F tw_420 d_Model_frame_20 ?_
    refine gw_nS (fun S20 E20 => ?_)
    refine gw_aload_n (pc := 23) F 0 d_Model_frame_23 rfl rfl ?_
    refine gw_iconst (pc := 24) (v := (0 : Int32)) F d_Model_frame_24 (by decide) ?_
    refine rp_Model_done (pc := 25) F tw_421 d_Model_frame_25 ?_
    refine gw_nS (fun S25 E25 => ?_)
    refine gw_aload_n (pc := 28) F 0 d_Model_frame_28 rfl rfl ?_
    refine gw_iconst (pc := 29) (v := (0 : Int32)) F d_Model_frame_29 (by decide) ?_
    refine rp_Model_rows (pc := 30) F tw_422 d_Model_frame_30 ?_
    refine gw_nS (fun S30 E30 => ?_)
    refine gw_aload_n (pc := 33) F 0 d_Model_frame_33 rfl rfl ?_
    refine gw_iconst (pc := 34) (v := (0 : Int32)) F d_Model_frame_34 (by decide) ?_
    refine rp_Model_begun (pc := 35) F tw_423 d_Model_frame_35 ?_
    refine gw_nS (fun S35 E35 => ?_)
    refine gw_aload_n (pc := 38) F 0 d_Model_frame_38 rfl rfl ?_
    refine gw_cV (pc := 39) (As := []) (rest := []) F (c_Model_settle (gw_FJ F) S35) cw_Model_settle cv_Model_settle tw_538 rfl (by decide) (by decide) (by decide) rE_Model rfl rfl rfl rfl (Nat.le_of_ble_eq_true rfl) d_Model_frame_39 (gw_bV (P := fun _ U => rOK U) (po_ok_Model_settle S35 (rOK_f E35 (rOK_f E30 (rOK_f E25 (rOK_f E20 p5 (by omega)) (by omega)) (by omega)) (by omega))) (fun _ S39 p39 => ?_))
    refine gw_iconst (pc := 42) (v := (0 : Int32)) F d_Model_frame_42 (by decide) ?_
    refine gw_istore_n (pc := 43) (lv' := [(2, .int (0 : Int32)), (0, .ref (ad 0)), (1, .int a1)]) F d_Model_frame_43 rfl (by decide) rfl ?_
    refine gw_iconst (pc := 44) (v := (0 : Int32)) F d_Model_frame_44 (by decide) ?_
    refine gw_istore_n (pc := 45) (lv' := [(3, .int (0 : Int32)), (2, .int (0 : Int32)), (0, .ref (ad 0)), (1, .int a1)]) F d_Model_frame_45 rfl (by decide) rfl ?_
    refine gw_lvs (lv' := [(0, .ref (ad 0)), (1, .int a1), (2, .int (0 : Int32)), (3, .int (0 : Int32))]) [2, 3, 1, 0] rfl ?_
    exact l_Model_frame_46  F a1  (gw_fu (((16 : Int32) : Int32).toInt - ((0 : Int32) : Int32).toInt)) S39 (0 : Int32) (0 : Int32) (gw_fu_pos _) (gw_fu_lt _) (by decide) p39
  · refine gw_iconst (pc := 11) (v := (-1 : Int32)) F d_Model_frame_11 (by decide) ?_
    exact gw_iret (pc := 12) F d_Model_frame_12
set_option maxHeartbeats 4000000 in
set_option maxRecDepth 100000 in
theorem pl_ok_Model_frame_46  (a1 : Int32) : ∀ (n : Nat) (S : gw_S) (x2 x3 : Int32), 0 < n → ((16 : Int32) : Int32).toInt - x3.toInt < (n : Int) → 0 ≤ x3.toInt → rOK S → rOK (fl_Model_frame_46 a1 n S x2 x3).2 := by
  intro n
  induction n with
  | zero => intro S x2 x3 hn hf h0 hf_ok; exact absurd hn (Nat.lt_irrefl 0)
  | succ n ih =>
    intro S x2 x3 hn hf h0 hf_ok
    refine po_if (Φ := fun p : Int32 × gw_S => rOK p.2) (fun h49 => ?_) (fun h49 => ?_)
    · exact hf_ok
    · refine po_if (Φ := fun p : Int32 × gw_S => rOK p.2) (fun h59 => ?_) (fun h59 => ?_)
      · exact ih S x2 (x3 + (1 : Int32)) (gw_stp h49 hf).1 (gw_stp h49 hf).2.1 (gw_stp0 h49 h0) hf_ok
      · refine po_if (Φ := fun p : Int32 × gw_S => rOK p.2) (fun h68 => ?_) (fun h68 => ?_)
        · refine po_b (Φ := fun p : Int32 × gw_S => rOK p.2) (P := fun _ U => rOK U) (po_ok_Model_turn S x3 a1 hf_ok (gw_inB (N := 16) (by decide) h49 h0) h59) (fun _ S74 p74 => ?_)
          exact ih S74 (x2 + (1 : Int32)) (x3 + (1 : Int32)) (gw_stp h49 hf).1 (gw_stp h49 hf).2.1 (gw_stp0 h49 h0) p74
        · exact ih S x2 (x3 + (1 : Int32)) (gw_stp h49 hf).1 (gw_stp h49 hf).2.1 (gw_stp0 h49 h0) hf_ok
set_option maxHeartbeats 4000000 in
set_option maxRecDepth 100000 in
theorem po_ok_Model_frame   (S : gw_S) (a1 : Int32) (hf_ok : rOK S) : rOK (f_Model_frame S a1).2 := by
  unfold f_Model_frame
  refine po_b (Φ := fun p : Int32 × gw_S => rOK p.2) (P := fun r U => rOK U) (po_ok_Model_in S a1 (1 : Int32) (500 : Int32) hf_ok) (fun r5 S5 p5 => ?_)
  refine po_if (Φ := fun p : Int32 × gw_S => rOK p.2) (fun h8 => ?_) (fun h8 => ?_)
  · exact p5
  · refine po_n (Φ := fun p : Int32 × gw_S => rOK p.2) (fun S20 E20 => ?_)
    refine po_n (Φ := fun p : Int32 × gw_S => rOK p.2) (fun S25 E25 => ?_)
    refine po_n (Φ := fun p : Int32 × gw_S => rOK p.2) (fun S30 E30 => ?_)
    refine po_n (Φ := fun p : Int32 × gw_S => rOK p.2) (fun S35 E35 => ?_)
    refine po_b (Φ := fun p : Int32 × gw_S => rOK p.2) (P := fun _ U => rOK U) (po_ok_Model_settle S35 (rOK_f E35 (rOK_f E30 (rOK_f E25 (rOK_f E20 p5 (by omega)) (by omega)) (by omega)) (by omega))) (fun _ S39 p39 => ?_)
    exact pl_ok_Model_frame_46 a1  (gw_fu (((16 : Int32) : Int32).toInt - ((0 : Int32) : Int32).toInt)) S39 (0 : Int32) (0 : Int32) (gw_fu_pos _) (gw_fu_lt _) (by decide) p39
end
