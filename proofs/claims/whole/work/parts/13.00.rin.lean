section
variable {l : Launch} {D : va_G} {cI cB cC cZ : ClassId} {ad : Nat → Nat}
noncomputable def f_Model_in   (S : gw_S) (a1 : Int32) (a2 : Int32) (a3 : Int32) : Int32 × gw_S := (if a1 < a2 then (((0 : Int32), S)) else (if a3 < a1 then (((0 : Int32), S)) else (((1 : Int32), S))))
set_option maxHeartbeats 4000000 in
set_option maxRecDepth 100000 in
theorem c_Model_in (hJ : gw_J 20 ad)   (S : gw_S) (a1 : Int32) (a2 : Int32) (a3 : Int32) : gw_M l y_Model_in prog_8_method_2_code 3 (some .boolean) gTs (gw_rm 0) D gCl (gTys cI cB cC cZ) 20 ad (rE ad cI cB cZ) gw_rI [.int a1, .int a2, .int a3] S (f_Model_in S a1 a2 a3) := by
  refine gw_start gTs_ok (plainFor_of_name (by decide)) hJ (Nat.le_of_ble_eq_true rfl) (fun X A F => ?_)
  refine gw_lve (lv' := [(0, .int a1), (1, .int a2), (2, .int a3)]) rfl ?_
  unfold f_Model_in
  refine gw_iload_n (pc := 0) F 0 d_Model_in_0 rfl rfl ?_
  refine gw_iload_n (pc := 1) F 1 d_Model_in_1 rfl rfl ?_
  refine gw_icmp_ltS (pc := 2) (tgt := 14) F d_Model_in_2 (by decide) (fun h2 => ?_) (fun h2 => ?_)
  · refine gw_iconst (pc := 14) (v := (0 : Int32)) F d_Model_in_14 (by decide) ?_
    exact gw_zret (pc := 15) F d_Model_in_15 rfl
  · refine gw_iload_n (pc := 5) F 0 d_Model_in_5 rfl rfl ?_
    refine gw_iload_n (pc := 6) F 2 d_Model_in_6 rfl rfl ?_
    refine gw_icmp_gtS (pc := 7) (tgt := 14) F d_Model_in_7 (by decide) (fun h7 => ?_) (fun h7 => ?_)
    · refine gw_iconst (pc := 14) (v := (0 : Int32)) F d_Model_in_14 (by decide) ?_
      exact gw_zret (pc := 15) F d_Model_in_15 rfl
    · refine gw_iconst (pc := 10) (v := (1 : Int32)) F d_Model_in_10 (by decide) ?_
      refine gw_goto (pc := 11) (tgt := 15) F d_Model_in_11 (by decide) ?_
      exact gw_zret (pc := 15) F d_Model_in_15 rfl
theorem rb_in {S : gw_S} {a b : Int32} {N : Nat} (hb : b.toInt + 1 = (N : Int)) (h : ¬ (f_Model_in S a (0 : Int32) b).1 = 0) : vp_in a N := by
  unfold f_Model_in at h
  split at h
  · exact absurd rfl h
  · rename_i h1
    split at h
    · exact absurd rfl h
    · rename_i h2
      rw [Int32.lt_iff_toInt_lt] at h1 h2
      rw [Int32.toInt_zero] at h1
      rw [vp_in_iff]
      omega
theorem rb_in2 (S : gw_S) (a : Int32) : (¬ (f_Model_in S a (0 : Int32) (1 : Int32)).1 = 0 → vp_in a 2) := fun h => rb_in (by decide) h
theorem rb_in1021 (S : gw_S) (a : Int32) : (¬ (f_Model_in S a (0 : Int32) (1020 : Int32)).1 = 0 → vp_in a 1021) := fun h => rb_in (by decide) h
theorem rb_in1024 (S : gw_S) (a : Int32) : (¬ (f_Model_in S a (0 : Int32) (1023 : Int32)).1 = 0 → vp_in a 1024) := fun h => rb_in (by decide) h
theorem rb_in32 (S : gw_S) (a : Int32) : (¬ (f_Model_in S a (0 : Int32) (31 : Int32)).1 = 0 → vp_in a 32) := fun h => rb_in (by decide) h
theorem rb_in16 (S : gw_S) (a : Int32) : (¬ (f_Model_in S a (0 : Int32) (15 : Int32)).1 = 0 → vp_in a 16) := fun h => rb_in (by decide) h
theorem rb_in4 (S : gw_S) (a : Int32) : (¬ (f_Model_in S a (0 : Int32) (3 : Int32)).1 = 0 → vp_in a 4) := fun h => rb_in (by decide) h
theorem rb_in64 (S : gw_S) (a : Int32) : (¬ (f_Model_in S a (0 : Int32) (63 : Int32)).1 = 0 → vp_in a 64) := fun h => rb_in (by decide) h
theorem rb_in40 (S : gw_S) (a : Int32) : (¬ (f_Model_in S a (0 : Int32) (39 : Int32)).1 = 0 → vp_in a 40) := fun h => rb_in (by decide) h
theorem rb_inA (S : gw_S) (a : Int32) : (¬ (f_Model_in S a (-1 : Int32) (1023 : Int32)).1 = 0 → rAd a) := by
  intro h
  unfold f_Model_in at h
  split at h
  · exact absurd rfl h
  · rename_i h1
    split at h
    · exact absurd rfl h
    · rename_i h2
      rw [Int32.lt_iff_toInt_lt] at h1 h2
      rw [show (-1 : Int32).toInt = -1 from rfl] at h1
      rw [show (1023 : Int32).toInt = 1023 from rfl] at h2
      unfold rAd
      omega
set_option maxHeartbeats 4000000 in
set_option maxRecDepth 100000 in
theorem po_at_Model_in   (S : gw_S) (a1 : Int32) (a2 : Int32) (a3 : Int32) (hf_at : vp_in (S 0 18) 1024) : vp_in ((f_Model_in S a1 a2 a3).2 0 18) 1024 := by
  unfold f_Model_in
  refine po_if (Φ := fun p : Int32 × gw_S => vp_in (p.2 0 18) 1024) (fun h2 => ?_) (fun h2 => ?_)
  · exact hf_at
  · refine po_if (Φ := fun p : Int32 × gw_S => vp_in (p.2 0 18) 1024) (fun h7 => ?_) (fun h7 => ?_)
    · exact hf_at
    · exact hf_at
set_option maxHeartbeats 4000000 in
set_option maxRecDepth 100000 in
theorem po_ok_Model_in   (S : gw_S) (a1 : Int32) (a2 : Int32) (a3 : Int32) (hf_ok : rOK S) : rOK (f_Model_in S a1 a2 a3).2 := by
  unfold f_Model_in
  refine po_if (Φ := fun p : Int32 × gw_S => rOK p.2) (fun h2 => ?_) (fun h2 => ?_)
  · exact hf_ok
  · refine po_if (Φ := fun p : Int32 × gw_S => rOK p.2) (fun h7 => ?_) (fun h7 => ?_)
    · exact hf_ok
    · exact hf_ok
noncomputable def f_Model_div   (S : gw_S) (a1 : Int64) (a2 : Int64) : Int64 × gw_S := (gw_n (a1 / a2) fun v3 => if (lg_cmp (v3 * a2) a1) ≤ 0 then ((v3, S)) else (((v3 - (1 : Int64)), S)))
set_option maxHeartbeats 4000000 in
set_option maxRecDepth 100000 in
theorem c_Model_div (hJ : gw_J 20 ad)   (S : gw_S) (a1 : Int64) (a2 : Int64) (hz : ¬ a2 = 0) : gw_M l y_Model_div prog_8_method_3_code 6 (some .long) gTs (gw_rm 0) D gCl (gTys cI cB cC cZ) 20 ad (rE ad cI cB cZ) gw_rJ [.long a1, .long a2] S (f_Model_div S a1 a2) := by
  refine gw_start gTs_ok (plainFor_of_name (by decide)) hJ (Nat.le_of_ble_eq_true rfl) (fun X A F => ?_)
  refine gw_lve (lv' := [(0, .long a1), (2, .long a2)]) rfl ?_
  unfold f_Model_div
  refine gw_lload_n (pc := 0) F 0 d_Model_div_0 rfl rfl ?_
  refine gw_lload_n (pc := 1) F 1 d_Model_div_1 rfl rfl ?_
  refine gw_ldiv (pc := 2) F d_Model_div_2 hz ?_
  refine gw_nJ (fun v3 e3 => ?_)
  refine gw_lstore (pc := 3) (lv' := [(4, .long v3), (0, .long a1), (2, .long a2)]) F d_Model_div_3 (by decide) rfl ?_
  refine gw_lload (pc := 5) F 0 d_Model_div_5 rfl ?_
  refine gw_lload_n (pc := 7) F 2 d_Model_div_7 rfl rfl ?_
  refine gw_lmul (pc := 8) F d_Model_div_8 ?_
  refine gw_lload_n (pc := 9) F 1 d_Model_div_9 rfl rfl ?_
  refine gw_lcmp (pc := 10) F d_Model_div_10 ?_
  refine gw_if_leS (pc := 11) (tgt := 21) F d_Model_div_11 (by decide) (fun h11 => ?_) (fun h11 => ?_)
  · refine gw_lload (pc := 21) F 0 d_Model_div_21 rfl ?_
    exact gw_lret (pc := 23) F d_Model_div_23
  · refine gw_lload (pc := 14) F 0 d_Model_div_14 rfl ?_
    refine gw_lconst (pc := 16) (v := (1 : Int64)) F d_Model_div_16 (by decide) ?_
    refine gw_lsub (pc := 17) F d_Model_div_17 ?_
    refine gw_goto (pc := 18) (tgt := 23) F d_Model_div_18 (by decide) ?_
    exact gw_lret (pc := 23) F d_Model_div_23
set_option maxHeartbeats 4000000 in
set_option maxRecDepth 100000 in
theorem po_at_Model_div   (S : gw_S) (a1 : Int64) (a2 : Int64) (hf_at : vp_in (S 0 18) 1024) (hz : ¬ a2 = 0) : vp_in ((f_Model_div S a1 a2).2 0 18) 1024 := by
  unfold f_Model_div
  refine po_n (Φ := fun p : Int64 × gw_S => vp_in (p.2 0 18) 1024) (fun v3 e3 => ?_)
  refine po_if (Φ := fun p : Int64 × gw_S => vp_in (p.2 0 18) 1024) (fun h11 => ?_) (fun h11 => ?_)
  · exact hf_at
  · exact hf_at
set_option maxHeartbeats 4000000 in
set_option maxRecDepth 100000 in
theorem po_ok_Model_div   (S : gw_S) (a1 : Int64) (a2 : Int64) (hf_ok : rOK S) (hz : ¬ a2 = 0) : rOK (f_Model_div S a1 a2).2 := by
  unfold f_Model_div
  refine po_n (Φ := fun p : Int64 × gw_S => rOK p.2) (fun v3 e3 => ?_)
  refine po_if (Φ := fun p : Int64 × gw_S => rOK p.2) (fun h11 => ?_) (fun h11 => ?_)
  · exact hf_ok
  · exact hf_ok
set_option maxHeartbeats 4000000 in
set_option maxRecDepth 100000 in
theorem po_pz_Model_div {ζ : Int32}   (S : gw_S) (a1 : Int64) (a2 : Int64) (hf_pz : S 0 23 = ζ) (hz : ¬ a2 = 0) : (f_Model_div S a1 a2).2 0 23 = ζ := by
  unfold f_Model_div
  refine po_n (Φ := fun p : Int64 × gw_S => p.2 0 23 = ζ) (fun v3 e3 => ?_)
  refine po_if (Φ := fun p : Int64 × gw_S => p.2 0 23 = ζ) (fun h11 => ?_) (fun h11 => ?_)
  · exact hf_pz
  · exact hf_pz
set_option maxHeartbeats 4000000 in
set_option maxRecDepth 100000 in
theorem po_dz_Model_div {δ : Int32}   (S : gw_S) (a1 : Int64) (a2 : Int64) (hf_dz : S 0 21 = δ) (hz : ¬ a2 = 0) : (f_Model_div S a1 a2).2 0 21 = δ := by
  unfold f_Model_div
  refine po_n (Φ := fun p : Int64 × gw_S => p.2 0 21 = δ) (fun v3 e3 => ?_)
  refine po_if (Φ := fun p : Int64 × gw_S => p.2 0 21 = δ) (fun h11 => ?_) (fun h11 => ?_)
  · exact hf_dz
  · exact hf_dz
set_option maxHeartbeats 4000000 in
set_option maxRecDepth 100000 in
theorem po_wz_Model_div {ω : Nat → Int32}   (S : gw_S) (a1 : Int64) (a2 : Int64) (hf_wz : S 16 = ω) (hz : ¬ a2 = 0) : (f_Model_div S a1 a2).2 16 = ω := by
  unfold f_Model_div
  refine po_n (Φ := fun p : Int64 × gw_S => p.2 16 = ω) (fun v3 e3 => ?_)
  refine po_if (Φ := fun p : Int64 × gw_S => p.2 16 = ω) (fun h11 => ?_) (fun h11 => ?_)
  · exact hf_wz
  · exact hf_wz
set_option maxHeartbeats 4000000 in
set_option maxRecDepth 100000 in
theorem po_st_Model_div   (S : gw_S) (a1 : Int64) (a2 : Int64) (hf_st : rST S) (hz : ¬ a2 = 0) : rST (f_Model_div S a1 a2).2 := by
  unfold f_Model_div
  refine po_n (Φ := fun p : Int64 × gw_S => rST p.2) (fun v3 e3 => ?_)
  refine po_if (Φ := fun p : Int64 × gw_S => rST p.2) (fun h11 => ?_) (fun h11 => ?_)
  · exact hf_st
  · exact hf_st
set_option maxHeartbeats 4000000 in
set_option maxRecDepth 100000 in
theorem po_nz_Model_div {ν : Int32}   (S : gw_S) (a1 : Int64) (a2 : Int64) (hf_nz : S 0 14 = ν) (hz : ¬ a2 = 0) : (f_Model_div S a1 a2).2 0 14 = ν := by
  unfold f_Model_div
  refine po_n (Φ := fun p : Int64 × gw_S => p.2 0 14 = ν) (fun v3 e3 => ?_)
  refine po_if (Φ := fun p : Int64 × gw_S => p.2 0 14 = ν) (fun h11 => ?_) (fun h11 => ?_)
  · exact hf_nz
  · exact hf_nz
noncomputable def f_Model_wrapped   (S : gw_S) (a1 : Int32) : Int32 × gw_S := ((((a1 : Int32).toInt16.toInt32), S))
set_option maxHeartbeats 4000000 in
set_option maxRecDepth 100000 in
theorem c_Model_wrapped (hJ : gw_J 20 ad)   (S : gw_S) (a1 : Int32) : gw_M l y_Model_wrapped prog_8_method_4_code 1 (some .int) gTs (gw_rm 0) D gCl (gTys cI cB cC cZ) 20 ad (rE ad cI cB cZ) gw_rI [.int a1] S (f_Model_wrapped S a1) := by
  refine gw_start gTs_ok (plainFor_of_name (by decide)) hJ (Nat.le_of_ble_eq_true rfl) (fun X A F => ?_)
  refine gw_lve (lv' := [(0, .int a1)]) rfl ?_
  unfold f_Model_wrapped
  refine gw_iload_n (pc := 0) F 0 d_Model_wrapped_0 rfl rfl ?_
  refine gw_i2s (pc := 1) F d_Model_wrapped_1 ?_
  exact gw_iret (pc := 2) F d_Model_wrapped_2
set_option maxHeartbeats 4000000 in
set_option maxRecDepth 100000 in
theorem po_at_Model_wrapped   (S : gw_S) (a1 : Int32) (hf_at : vp_in (S 0 18) 1024) : vp_in ((f_Model_wrapped S a1).2 0 18) 1024 := by
  unfold f_Model_wrapped
  exact hf_at
set_option maxHeartbeats 4000000 in
set_option maxRecDepth 100000 in
theorem po_ok_Model_wrapped   (S : gw_S) (a1 : Int32) (hf_ok : rOK S) : rOK (f_Model_wrapped S a1).2 := by
  unfold f_Model_wrapped
  exact hf_ok
set_option maxHeartbeats 4000000 in
set_option maxRecDepth 100000 in
theorem po_nz_Model_wrapped {ν : Int32}   (S : gw_S) (a1 : Int32) (hf_nz : S 0 14 = ν) : (f_Model_wrapped S a1).2 0 14 = ν := by
  unfold f_Model_wrapped
  exact hf_nz
end
