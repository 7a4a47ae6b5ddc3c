section
variable {l : Launch} {D : va_G} {cI cB cC cZ : ClassId} {ad : Nat → Nat}
noncomputable def fl_Model_settle_2    (n : Nat) : gw_S → Int32 → Unit × gw_S := gw_L1 (fun self S x1 => (if (16 : Int32) ≤ x1 then (((), S)) else (if (S 8 (x1 : Int32).toNatClampNeg) = (-2 : Int32) then (if (S 9 (x1 : Int32).toNatClampNeg) = (-2 : Int32) then (self S (x1 + (1 : Int32))) else (if (S 9 (x1 : Int32).toNatClampNeg) = (1 : Int32) then (gw_n (gw_u S 10 (x1 : Int32).toNatClampNeg (vp_nar .boolean (1 : Int32))) fun S77 => gw_n (gw_u S77 9 (x1 : Int32).toNatClampNeg (-2 : Int32)) fun S85 => (self S85 (x1 + (1 : Int32)))) else (gw_n (gw_u S 10 (x1 : Int32).toNatClampNeg (vp_nar .boolean (0 : Int32))) fun S77 => gw_n (gw_u S77 9 (x1 : Int32).toNatClampNeg (-2 : Int32)) fun S85 => (self S85 (x1 + (1 : Int32)))))) else (gw_n (gw_u S 5 (x1 : Int32).toNatClampNeg (S 8 (x1 : Int32).toNatClampNeg)) fun S30 => gw_n (gw_u S30 6 (x1 : Int32).toNatClampNeg (0 : Int32)) fun S37 => gw_n (gw_u S37 8 (x1 : Int32).toNatClampNeg (-2 : Int32)) fun S45 => if (S45 9 (x1 : Int32).toNatClampNeg) = (-2 : Int32) then (self S45 (x1 + (1 : Int32))) else (if (S45 9 (x1 : Int32).toNatClampNeg) = (1 : Int32) then (gw_n (gw_u S45 10 (x1 : Int32).toNatClampNeg (vp_nar .boolean (1 : Int32))) fun S77 => gw_n (gw_u S77 9 (x1 : Int32).toNatClampNeg (-2 : Int32)) fun S85 => (self S85 (x1 + (1 : Int32)))) else (gw_n (gw_u S45 10 (x1 : Int32).toNatClampNeg (vp_nar .boolean (0 : Int32))) fun S77 => gw_n (gw_u S77 9 (x1 : Int32).toNatClampNeg (-2 : Int32)) fun S85 => (self S85 (x1 + (1 : Int32))))))))) (fun S _ => ((), S)) n
set_option maxHeartbeats 4000000 in
set_option maxRecDepth 100000 in
theorem l_Model_settle_2 {X : gx_M} {A : Nat → Prop}  (F : gw_F X l prog_8_method_29_code 2 none "StageMachineModel" gTs (gw_rm 0) D gCl (gTys cI cB cC cZ) 20 ad A)  : ∀ (n : Nat) (S : gw_S) (x1 : Int32), 0 < n → ((16 : Int32) : Int32).toInt - x1.toInt < (n : Int) → 0 ≤ x1.toInt → gw_V X (gw_P D gCl 20 ad (rE ad cI cB cZ)) A 2 gw_rV S 2 [(0, .ref (ad 0)), (1, .int x1)] [] (fl_Model_settle_2  n S x1) := by
  intro n
  induction n with
  | zero => intro S x1 hn hf h0; exact absurd hn (Nat.lt_irrefl 0)
  | succ n ih =>
    intro S x1 hn hf h0
    refine gw_iload_n (pc := 2) F 1 d_Model_settle_2 rfl rfl ?_
    refine gw_bipush (pc := 3) (v := (16 : Int32)) F d_Model_settle_3 (by decide) ?_
    refine gw_icmp_geS (pc := 5) (tgt := 92) F d_Model_settle_5 (by decide) (fun h5 => ?_) (fun h5 => ?_)
    · exact gw_vret (pc := 92) F d_Model_settle_92
    · refine gw_aload_n (pc := 8) F 0 d_Model_settle_8 rfl rfl ?_
      refine rg_Model_asked (pc := 9) F tw_416 d_Model_settle_9 ?_
      refine gw_iload_n (pc := 12) F 1 d_Model_settle_12 rfl rfl ?_
      refine rl_MAsk (pc := 13) F (gw_inB (N := 16) (by decide) h5 h0) d_Model_settle_13 ?_
      refine gw_bipush (pc := 14) (v := (-2 : Int32)) F d_Model_settle_14 (by decide) ?_
      refine gw_icmp_eqS (pc := 16) (tgt := 46) F d_Model_settle_16 (by decide) (fun h16 => ?_) (fun h16 => ?_)
      · refine gw_aload_n (pc := 46) F 0 d_Model_settle_46 rfl rfl ?_
        refine rg_Model_askedPause (pc := 47) F tw_417 d_Model_settle_47 ?_
        refine gw_iload_n (pc := 50) F 1 d_Model_settle_50 rfl rfl ?_
        refine rl_MAp (pc := 51) F (gw_inB (N := 16) (by decide) h5 h0) d_Model_settle_51 ?_
        refine gw_bipush (pc := 52) (v := (-2 : Int32)) F d_Model_settle_52 (by decide) ?_
        refine gw_icmp_eqS (pc := 54) (tgt := 86) F d_Model_settle_54 (by decide) (fun h54 => ?_) (fun h54 => ?_)
        · refine gw_iinc (pc := 86) (v := (x1 + (1 : Int32))) (lv' := [(1, .int (x1 + (1 : Int32))), (0, .ref (ad 0))]) F 1 d_Model_settle_86 rfl (congrArg (HAdd.hAdd x1) (by decide)) (by decide) rfl ?_
          refine gw_goto (pc := 89) (tgt := 2) F d_Model_settle_89 (by decide) ?_
          refine gw_lvs (lv' := [(0, .ref (ad 0)), (1, .int (x1 + (1 : Int32)))]) [1, 0] rfl ?_
          exact ih S (x1 + (1 : Int32)) (gw_stp h5 hf).1 (gw_stp h5 hf).2.1 (gw_stp0 h5 h0)
        · refine gw_aload_n (pc := 57) F 0 d_Model_settle_57 rfl rfl ?_
          refine rg_Model_paused (pc := 58) F tw_418 d_Model_settle_58 ?_
          refine gw_iload_n (pc := 61) F 1 d_Model_settle_61 rfl rfl ?_
          refine gw_aload_n (pc := 62) F 0 d_Model_settle_62 rfl rfl ?_
          refine rg_Model_askedPause (pc := 63) F tw_417 d_Model_settle_63 ?_
          refine gw_iload_n (pc := 66) F 1 d_Model_settle_66 rfl rfl ?_
          refine rl_MAp (pc := 67) F (gw_inB (N := 16) (by decide) h5 h0) d_Model_settle_67 ?_
          refine gw_iconst (pc := 68) (v := (1 : Int32)) F d_Model_settle_68 (by decide) ?_
          refine gw_icmp_neS (pc := 69) (tgt := 76) F d_Model_settle_69 (by decide) (fun h69 => ?_) (fun h69 => ?_)
          · refine gw_iconst (pc := 76) (v := (0 : Int32)) F d_Model_settle_76 (by decide) ?_
            refine rs_MPau (pc := 77) F (gw_inB (N := 16) (by decide) h5 h0) d_Model_settle_77 ?_
            refine gw_nS (fun S77 E77 => ?_)
            refine gw_aload_n (pc := 78) F 0 d_Model_settle_78 rfl rfl ?_
            refine rg_Model_askedPause (pc := 79) F tw_417 d_Model_settle_79 ?_
            refine gw_iload_n (pc := 82) F 1 d_Model_settle_82 rfl rfl ?_
            refine gw_bipush (pc := 83) (v := (-2 : Int32)) F d_Model_settle_83 (by decide) ?_
            refine rs_MAp (pc := 85) F (gw_inB (N := 16) (by decide) h5 h0) d_Model_settle_85 ?_
            refine gw_nS (fun S85 E85 => ?_)
            refine gw_iinc (pc := 86) (v := (x1 + (1 : Int32))) (lv' := [(1, .int (x1 + (1 : Int32))), (0, .ref (ad 0))]) F 1 d_Model_settle_86 rfl (congrArg (HAdd.hAdd x1) (by decide)) (by decide) rfl ?_
            refine gw_goto (pc := 89) (tgt := 2) F d_Model_settle_89 (by decide) ?_
            refine gw_lvs (lv' := [(0, .ref (ad 0)), (1, .int (x1 + (1 : Int32)))]) [1, 0] rfl ?_
            exact ih S85 (x1 + (1 : Int32)) (gw_stp h5 hf).1 (gw_stp h5 hf).2.1 (gw_stp0 h5 h0)
          · refine gw_iconst (pc := 72) (v := (1 : Int32)) F d_Model_settle_72 (by decide) ?_
            refine gw_goto (pc := 73) (tgt := 77) F d_Model_settle_73 (by decide) ?_
            refine rs_MPau (pc := 77) F (gw_inB (N := 16) (by decide) h5 h0) d_Model_settle_77 ?_
            refine gw_nS (fun S77 E77 => ?_)
            refine gw_aload_n (pc := 78) F 0 d_Model_settle_78 rfl rfl ?_
            refine rg_Model_askedPause (pc := 79) F tw_417 d_Model_settle_79 ?_
            refine gw_iload_n (pc := 82) F 1 d_Model_settle_82 rfl rfl ?_
            refine gw_bipush (pc := 83) (v := (-2 : Int32)) F d_Model_settle_83 (by decide) ?_
            refine rs_MAp (pc := 85) F (gw_inB (N := 16) (by decide) h5 h0) d_Model_settle_85 ?_
            refine gw_nS (fun S85 E85 => ?_)
            refine gw_iinc (pc := 86) (v := (x1 + (1 : Int32))) (lv' := [(1, .int (x1 + (1 : Int32))), (0, .ref (ad 0))]) F 1 d_Model_settle_86 rfl (congrArg (HAdd.hAdd x1) (by decide)) (by decide) rfl ?_
            refine gw_goto (pc := 89) (tgt := 2) F d_Model_settle_89 (by decide) ?_
            refine gw_lvs (lv' := [(0, .ref (ad 0)), (1, .int (x1 + (1 : Int32)))]) [1, 0] rfl ?_
            exact ih S85 (x1 + (1 : Int32)) (gw_stp h5 hf).1 (gw_stp h5 hf).2.1 (gw_stp0 h5 h0)
      · refine gw_aload_n (pc := 19) F 0 d_Model_settle_19 rfl rfl ?_
        refine rg_Model_address (pc := 20) F tw_413 d_Model_settle_20 ?_
        refine gw_iload_n (pc := 23) F 1 d_Model_settle_23 rfl rfl ?_
        refine gw_aload_n (pc := 24) F 0 d_Model_settle_24 rfl rfl ?_
        refine rg_Model_asked (pc := 25) F tw_416 d_Model_settle_25 ?_
        refine gw_iload_n (pc := 28) F 1 d_Model_settle_28 rfl rfl ?_
        refine rl_MAsk (pc := 29) F (gw_inB (N := 16) (by decide) h5 h0) d_Model_settle_29 ?_
        refine rs_MAdr (pc := 30) F (gw_inB (N := 16) (by decide) h5 h0) d_Model_settle_30 ?_
        refine gw_nS (fun S30 E30 => ?_)
        refine gw_aload_n (pc := 31) F 0 d_Model_settle_31 rfl rfl ?_
        refine rg_Model_many (pc := 32) F tw_414 d_Model_settle_32 ?_
        refine gw_iload_n (pc := 35) F 1 d_Model_settle_35 rfl rfl ?_
        refine gw_iconst (pc := 36) (v := (0 : Int32)) F d_Model_settle_36 (by decide) ?_
        refine rs_MMany (pc := 37) F (gw_inB (N := 16) (by decide) h5 h0) d_Model_settle_37 ?_
        refine gw_nS (fun S37 E37 => ?_)
        refine gw_aload_n (pc := 38) F 0 d_Model_settle_38 rfl rfl ?_
        refine rg_Model_asked (pc := 39) F tw_416 d_Model_settle_39 ?_
        refine gw_iload_n (pc := 42) F 1 d_Model_settle_42 rfl rfl ?_
        refine gw_bipush (pc := 43) (v := (-2 : Int32)) F d_Model_settle_43 (by decide) ?_
        refine rs_MAsk (pc := 45) F (gw_inB (N := 16) (by decide) h5 h0) d_Model_settle_45 ?_
        refine gw_nS (fun S45 E45 => ?_)
        refine gw_aload_n (pc := 46) F 0 d_Model_settle_46 rfl rfl ?_
        refine rg_Model_askedPause (pc := 47) F tw_417 d_Model_settle_47 ?_
        refine gw_iload_n (pc := 50) F 1 d_Model_settle_50 rfl rfl ?_
        refine rl_MAp (pc := 51) F (gw_inB (N := 16) (by decide) h5 h0) d_Model_settle_51 ?_
        refine gw_bipush (pc := 52) (v := (-2 : Int32)) F d_Model_settle_52 (by decide) ?_
        refine gw_icmp_eqS (pc := 54) (tgt := 86) F d_Model_settle_54 (by decide) (fun h54 => ?_) (fun h54 => ?_)
        · refine gw_iinc (pc := 86) (v := (x1 + (1 : Int32))) (lv' := [(1, .int (x1 + (1 : Int32))), (0, .ref (ad 0))]) F 1 d_Model_settle_86 rfl (congrArg (HAdd.hAdd x1) (by decide)) (by decide) rfl ?_
          refine gw_goto (pc := 89) (tgt := 2) F d_Model_settle_89 (by decide) ?_
          refine gw_lvs (lv' := [(0, .ref (ad 0)), (1, .int (x1 + (1 : Int32)))]) [1, 0] rfl ?_
          exact ih S45 (x1 + (1 : Int32)) (gw_stp h5 hf).1 (gw_stp h5 hf).2.1 (gw_stp0 h5 h0)
        · refine gw_aload_n (pc := 57) F 0 d_Model_settle_57 rfl rfl ?_
          refine rg_Model_paused (pc := 58) F tw_418 d_Model_settle_58 ?_
          refine gw_iload_n (pc := 61) F 1 d_Model_settle_61 rfl rfl ?_
          refine gw_aload_n (pc := 62) F 0 d_Model_settle_62 rfl rfl ?_
          refine rg_Model_askedPause (pc := 63) F tw_417 d_Model_settle_63 ?_
          refine gw_iload_n (pc := 66) F 1 d_Model_settle_66 rfl rfl ?_
          refine rl_MAp (pc := 67) F (gw_inB (N := 16) (by decide) h5 h0) d_Model_settle_67 ?_
          refine gw_iconst (pc := 68) (v := (1 : Int32)) F d_Model_settle_68 (by decide) ?_
          refine gw_icmp_neS (pc := 69) (tgt := 76) F d_Model_settle_69 (by decide) (fun h69 => ?_) (fun h69 => ?_)
          · refine gw_iconst (pc := 76) (v := (0 : Int32)) F d_Model_settle_76 (by decide) ?_
            refine rs_MPau (pc := 77) F (gw_inB (N := 16) (by decide) h5 h0) d_Model_settle_77 ?_
            refine gw_nS (fun S77 E77 => ?_)
            refine gw_aload_n (pc := 78) F 0 d_Model_settle_78 rfl rfl ?_
            refine rg_Model_askedPause (pc := 79) F tw_417 d_Model_settle_79 ?_
            refine gw_iload_n (pc := 82) F 1 d_Model_settle_82 rfl rfl ?_
            refine gw_bipush (pc := 83) (v := (-2 : Int32)) F d_Model_settle_83 (by decide) ?_
            refine rs_MAp (pc := 85) F (gw_inB (N := 16) (by decide) h5 h0) d_Model_settle_85 ?_
            refine gw_nS (fun S85 E85 => ?_)
            refine gw_iinc (pc := 86) (v := (x1 + (1 : Int32))) (lv' := [(1, .int (x1 + (1 : Int32))), (0, .ref (ad 0))]) F 1 d_Model_settle_86 rfl (congrArg (HAdd.hAdd x1) (by decide)) (by decide) rfl ?_
            refine gw_goto (pc := 89) (tgt := 2) F d_Model_settle_89 (by decide) ?_
            refine gw_lvs (lv' := [(0, .ref (ad 0)), (1, .int (x1 + (1 : Int32)))]) [1, 0] rfl ?_
            exact ih S85 (x1 + (1 : Int32)) (gw_stp h5 hf).1 (gw_stp h5 hf).2.1 (gw_stp0 h5 h0)
          · refine gw_iconst (pc := 72) (v := (1 : Int32)) F d_Model_settle_72 (by decide) ?_
            refine gw_goto (pc := 73) (tgt := 77) F d_Model_settle_73 (by decide) ?_
            refine rs_MPau (pc := 77) F (gw_inB (N := 16) (by decide) h5 h0) d_Model_settle_77 ?_
            refine gw_nS (fun S77 E77 => ?_)
            refine gw_aload_n (pc := 78) F 0 d_Model_settle_78 rfl rfl ?_
            refine rg_Model_askedPause (pc := 79) F tw_417 d_Model_settle_79 ?_
            refine gw_iload_n (pc := 82) F 1 d_Model_settle_82 rfl rfl ?_
            refine gw_bipush (pc := 83) (v := (-2 : Int32)) F d_Model_settle_83 (by decide) ?_
            refine rs_MAp (pc := 85) F (gw_inB (N := 16) (by decide) h5 h0) d_Model_settle_85 ?_
            refine gw_nS (fun S85 E85 => ?_)
            refine gw_iinc (pc := 86) (v := (x1 + (1 : Int32))) (lv' := [(1, .int (x1 + (1 : Int32))), (0, .ref (ad 0))]) F 1 d_Model_settle_86 rfl (congrArg (HAdd.hAdd x1) (by decide)) (by decide) rfl ?_
            refine gw_goto (pc := 89) (tgt := 2) F d_Model_settle_89 (by decide) ?_
            refine gw_lvs (lv' := [(0, .ref (ad 0)), (1, .int (x1 + (1 : Int32)))]) [1, 0] rfl ?_
            exact ih S85 (x1 + (1 : Int32)) (gw_stp h5 hf).1 (gw_stp h5 hf).2.1 (gw_stp0 h5 h0)
noncomputable def f_Model_settle   (S : gw_S)  : Unit × gw_S := (fl_Model_settle_2  (gw_fu (((16 : Int32) : Int32).toInt - ((0 : Int32) : Int32).toInt)) S (0 : Int32))
set_option maxHeartbeats 4000000 in
set_option maxRecDepth 100000 in
theorem c_Model_settle (hJ : gw_J 20 ad)   (S : gw_S)  : gw_M l y_Model_settle prog_8_method_29_code 2 none gTs (gw_rm 0) D gCl (gTys cI cB cC cZ) 20 ad (rE ad cI cB cZ) gw_rV [.ref (ad 0)] S (f_Model_settle S) := by
  refine gw_start gTs_ok (plainFor_of_name (by decide)) hJ (Nat.le_of_ble_eq_true rfl) (fun X A F => ?_)
  refine gw_lve (lv' := [(0, .ref (ad 0))]) rfl ?_
  unfold f_Model_settle
  refine gw_iconst (pc := 0) (v := (0 : Int32)) F d_Model_settle_0 (by decide) ?_
  refine gw_istore_n (pc := 1) (lv' := [(1, .int (0 : Int32)), (0, .ref (ad 0))]) F d_Model_settle_1 rfl (by decide) rfl ?_
  refine gw_lvs (lv' := [(0, .ref (ad 0)), (1, .int (0 : Int32))]) [1, 0] rfl ?_
  exact l_Model_settle_2  F   (gw_fu (((16 : Int32) : Int32).toInt - ((0 : Int32) : Int32).toInt)) S (0 : Int32) (gw_fu_pos _) (gw_fu_lt _) (by decide)
set_option maxHeartbeats 4000000 in
set_option maxRecDepth 100000 in
theorem pl_at_Model_settle_2   : ∀ (n : Nat) (S : gw_S) (x1 : Int32), 0 < n → ((16 : Int32) : Int32).toInt - x1.toInt < (n : Int) → 0 ≤ x1.toInt → vp_in (S 0 18) 1024 → vp_in ((fl_Model_settle_2  n S x1).2 0 18) 1024 := by
  intro n
  induction n with
  | zero => intro S x1 hn hf h0 hf_at; exact absurd hn (Nat.lt_irrefl 0)
  | succ n ih =>
    intro S x1 hn hf h0 hf_at
    refine po_if (Φ := fun p : Unit × gw_S => vp_in (p.2 0 18) 1024) (fun h5 => ?_) (fun h5 => ?_)
    · exact hf_at
    · refine po_if (Φ := fun p : Unit × gw_S => vp_in (p.2 0 18) 1024) (fun h16 => ?_) (fun h16 => ?_)
      · refine po_if (Φ := fun p : Unit × gw_S => vp_in (p.2 0 18) 1024) (fun h54 => ?_) (fun h54 => ?_)
        · exact ih S (x1 + (1 : Int32)) (gw_stp h5 hf).1 (gw_stp h5 hf).2.1 (gw_stp0 h5 h0) hf_at
        · refine po_if (Φ := fun p : Unit × gw_S => vp_in (p.2 0 18) 1024) (fun h69 => ?_) (fun h69 => ?_)
          · refine po_n (Φ := fun p : Unit × gw_S => vp_in (p.2 0 18) 1024) (fun S77 E77 => ?_)
            refine po_n (Φ := fun p : Unit × gw_S => vp_in (p.2 0 18) 1024) (fun S85 E85 => ?_)
            exact ih S85 (x1 + (1 : Int32)) (gw_stp h5 hf).1 (gw_stp h5 hf).2.1 (gw_stp0 h5 h0) (rOK_keep (P := fun z => vp_in z 1024) E85 (rOK_keep (P := fun z => vp_in z 1024) E77 hf_at (by omega)) (by omega))
          · refine po_n (Φ := fun p : Unit × gw_S => vp_in (p.2 0 18) 1024) (fun S77 E77 => ?_)
            refine po_n (Φ := fun p : Unit × gw_S => vp_in (p.2 0 18) 1024) (fun S85 E85 => ?_)
            exact ih S85 (x1 + (1 : Int32)) (gw_stp h5 hf).1 (gw_stp h5 hf).2.1 (gw_stp0 h5 h0) (rOK_keep (P := fun z => vp_in z 1024) E85 (rOK_keep (P := fun z => vp_in z 1024) E77 hf_at (by omega)) (by omega))
      · refine po_n (Φ := fun p : Unit × gw_S => vp_in (p.2 0 18) 1024) (fun S30 E30 => ?_)
        refine po_n (Φ := fun p : Unit × gw_S => vp_in (p.2 0 18) 1024) (fun S37 E37 => ?_)
        refine po_n (Φ := fun p : Unit × gw_S => vp_in (p.2 0 18) 1024) (fun S45 E45 => ?_)
        refine po_if (Φ := fun p : Unit × gw_S => vp_in (p.2 0 18) 1024) (fun h54 => ?_) (fun h54 => ?_)
        · exact ih S45 (x1 + (1 : Int32)) (gw_stp h5 hf).1 (gw_stp h5 hf).2.1 (gw_stp0 h5 h0) (rOK_keep (P := fun z => vp_in z 1024) E45 (rOK_keep (P := fun z => vp_in z 1024) E37 (rOK_keep (P := fun z => vp_in z 1024) E30 hf_at (by omega)) (by omega)) (by omega))
        · refine po_if (Φ := fun p : Unit × gw_S => vp_in (p.2 0 18) 1024) (fun h69 => ?_) (fun h69 => ?_)
          · refine po_n (Φ := fun p : Unit × gw_S => vp_in (p.2 0 18) 1024) (fun S77 E77 => ?_)
            refine po_n (Φ := fun p : Unit × gw_S => vp_in (p.2 0 18) 1024) (fun S85 E85 => ?_)
            exact ih S85 (x1 + (1 : Int32)) (gw_stp h5 hf).1 (gw_stp h5 hf).2.1 (gw_stp0 h5 h0) (rOK_keep (P := fun z => vp_in z 1024) E85 (rOK_keep (P := fun z => vp_in z 1024) E77 (rOK_keep (P := fun z => vp_in z 1024) E45 (rOK_keep (P := fun z => vp_in z 1024) E37 (rOK_keep (P := fun z => vp_in z 1024) E30 hf_at (by omega)) (by omega)) (by omega)) (by omega)) (by omega))
          · refine po_n (Φ := fun p : Unit × gw_S => vp_in (p.2 0 18) 1024) (fun S77 E77 => ?_)
            refine po_n (Φ := fun p : Unit × gw_S => vp_in (p.2 0 18) 1024) (fun S85 E85 => ?_)
            exact ih S85 (x1 + (1 : Int32)) (gw_stp h5 hf).1 (gw_stp h5 hf).2.1 (gw_stp0 h5 h0) (rOK_keep (P := fun z => vp_in z 1024) E85 (rOK_keep (P := fun z => vp_in z 1024) E77 (rOK_keep (P := fun z => vp_in z 1024) E45 (rOK_keep (P := fun z => vp_in z 1024) E37 (rOK_keep (P := fun z => vp_in z 1024) E30 hf_at (by omega)) (by omega)) (by omega)) (by omega)) (by omega))
set_option maxHeartbeats 4000000 in
set_option maxRecDepth 100000 in
theorem po_at_Model_settle   (S : gw_S)  (hf_at : vp_in (S 0 18) 1024) : vp_in ((f_Model_settle S).2 0 18) 1024 := by
  unfold f_Model_settle
  exact pl_at_Model_settle_2   (gw_fu (((16 : Int32) : Int32).toInt - ((0 : Int32) : Int32).toInt)) S (0 : Int32) (gw_fu_pos _) (gw_fu_lt _) (by decide) hf_at
set_option maxHeartbeats 4000000 in
set_option maxRecDepth 100000 in
theorem pl_ok_Model_settle_2   : ∀ (n : Nat) (S : gw_S) (x1 : Int32), 0 < n → ((16 : Int32) : Int32).toInt - x1.toInt < (n : Int) → 0 ≤ x1.toInt → rOK S → rOK (fl_Model_settle_2  n S x1).2 := by
  intro n
  induction n with
  | zero => intro S x1 hn hf h0 hf_ok; exact absurd hn (Nat.lt_irrefl 0)
  | succ n ih =>
    intro S x1 hn hf h0 hf_ok
    refine po_if (Φ := fun p : Unit × gw_S => rOK p.2) (fun h5 => ?_) (fun h5 => ?_)
    · exact hf_ok
    · refine po_if (Φ := fun p : Unit × gw_S => rOK p.2) (fun h16 => ?_) (fun h16 => ?_)
      · refine po_if (Φ := fun p : Unit × gw_S => rOK p.2) (fun h54 => ?_) (fun h54 => ?_)
        · exact ih S (x1 + (1 : Int32)) (gw_stp h5 hf).1 (gw_stp h5 hf).2.1 (gw_stp0 h5 h0) hf_ok
        · refine po_if (Φ := fun p : Unit × gw_S => rOK p.2) (fun h69 => ?_) (fun h69 => ?_)
          · refine po_n (Φ := fun p : Unit × gw_S => rOK p.2) (fun S77 E77 => ?_)
            refine po_n (Φ := fun p : Unit × gw_S => rOK p.2) (fun S85 E85 => ?_)
            exact ih S85 (x1 + (1 : Int32)) (gw_stp h5 hf).1 (gw_stp h5 hf).2.1 (gw_stp0 h5 h0) (rOK_c E85 (rOK_c E77 hf_ok (by omega)) (by omega))
          · refine po_n (Φ := fun p : Unit × gw_S => rOK p.2) (fun S77 E77 => ?_)
            refine po_n (Φ := fun p : Unit × gw_S => rOK p.2) (fun S85 E85 => ?_)
            exact ih S85 (x1 + (1 : Int32)) (gw_stp h5 hf).1 (gw_stp h5 hf).2.1 (gw_stp0 h5 h0) (rOK_c E85 (rOK_c E77 hf_ok (by omega)) (by omega))
      · refine po_n (Φ := fun p : Unit × gw_S => rOK p.2) (fun S30 E30 => ?_)
        refine po_n (Φ := fun p : Unit × gw_S => rOK p.2) (fun S37 E37 => ?_)
        refine po_n (Φ := fun p : Unit × gw_S => rOK p.2) (fun S45 E45 => ?_)
        refine po_if (Φ := fun p : Unit × gw_S => rOK p.2) (fun h54 => ?_) (fun h54 => ?_)
        · exact ih S45 (x1 + (1 : Int32)) (gw_stp h5 hf).1 (gw_stp h5 hf).2.1 (gw_stp0 h5 h0) (rOK_as E45 (rOK_m E37 (rOK_ad E30 hf_ok (rAd_as ((hf_ok 8 _).2.2.2.2.2.2 rfl) h16)) (by rw [vp_in_iff]; decide)) (by unfold rAs; decide))
        · refine po_if (Φ := fun p : Unit × gw_S => rOK p.2) (fun h69 => ?_) (fun h69 => ?_)
          · refine po_n (Φ := fun p : Unit × gw_S => rOK p.2) (fun S77 E77 => ?_)
            refine po_n (Φ := fun p : Unit × gw_S => rOK p.2) (fun S85 E85 => ?_)
            exact ih S85 (x1 + (1 : Int32)) (gw_stp h5 hf).1 (gw_stp h5 hf).2.1 (gw_stp0 h5 h0) (rOK_c E85 (rOK_c E77 (rOK_as E45 (rOK_m E37 (rOK_ad E30 hf_ok (rAd_as ((hf_ok 8 _).2.2.2.2.2.2 rfl) h16)) (by rw [vp_in_iff]; decide)) (by unfold rAs; decide)) (by omega)) (by omega))
          · refine po_n (Φ := fun p : Unit × gw_S => rOK p.2) (fun S77 E77 => ?_)
            refine po_n (Φ := fun p : Unit × gw_S => rOK p.2) (fun S85 E85 => ?_)
            exact ih S85 (x1 + (1 : Int32)) (gw_stp h5 hf).1 (gw_stp h5 hf).2.1 (gw_stp0 h5 h0) (rOK_c E85 (rOK_c E77 (rOK_as E45 (rOK_m E37 (rOK_ad E30 hf_ok (rAd_as ((hf_ok 8 _).2.2.2.2.2.2 rfl) h16)) (by rw [vp_in_iff]; decide)) (by unfold rAs; decide)) (by omega)) (by omega))
set_option maxHeartbeats 4000000 in
set_option maxRecDepth 100000 in
theorem po_ok_Model_settle   (S : gw_S)  (hf_ok : rOK S) : rOK (f_Model_settle S).2 := by
  unfold f_Model_settle
  exact pl_ok_Model_settle_2   (gw_fu (((16 : Int32) : Int32).toInt - ((0 : Int32) : Int32).toInt)) S (0 : Int32) (gw_fu_pos _) (gw_fu_lt _) (by decide) hf_ok
end
