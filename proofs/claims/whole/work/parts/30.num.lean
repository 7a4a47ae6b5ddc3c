theorem lg_gt {x y : Int64} : 0 < lg_cmp x y ↔ y.toInt < x.toInt := by
  unfold lg_cmp
  by_cases h : x > y
  · rw [if_pos h]
    have h2 : y.toInt < x.toInt := Int64.lt_iff_toInt_lt.mp h
    exact ⟨fun _ => h2, fun _ => by decide⟩
  · rw [if_neg h]
    have h2 : ¬ y.toInt < x.toInt := fun q => h (Int64.lt_iff_toInt_lt.mpr q)
    by_cases e : x = y
    · rw [if_pos e]; exact ⟨fun q => absurd q (by decide), fun q => absurd q h2⟩
    · rw [if_neg e]; exact ⟨fun q => absurd q (by decide), fun q => absurd q h2⟩
theorem lg_eq {x y : Int64} : lg_cmp x y = 0 ↔ x = y := by
  unfold lg_cmp
  by_cases h : x > y
  · rw [if_pos h]
    refine ⟨fun q => absurd q (by decide), fun q => ?_⟩
    subst q
    have h2 : x.toInt < x.toInt := Int64.lt_iff_toInt_lt.mp h
    omega
  · rw [if_neg h]
    by_cases e : x = y
    · rw [if_pos e]; exact ⟨fun _ => e, fun _ => rfl⟩
    · rw [if_neg e]; exact ⟨fun q => absurd q (by decide), fun q => absurd q e⟩
theorem lg_lt {x y : Int64} : lg_cmp x y < 0 ↔ x.toInt < y.toInt := by
  unfold lg_cmp
  by_cases h : x > y
  · rw [if_pos h]
    have h2 : y.toInt < x.toInt := Int64.lt_iff_toInt_lt.mp h
    exact ⟨fun q => absurd q (by decide), fun q => by omega⟩
  · rw [if_neg h]
    have h2 : ¬ y.toInt < x.toInt := fun q => h (Int64.lt_iff_toInt_lt.mpr q)
    by_cases e : x = y
    · rw [if_pos e]
      subst e
      exact ⟨fun q => absurd q (by decide), fun q => by omega⟩
    · rw [if_neg e]
      have h3 : ¬ x.toInt = y.toInt := fun q => e (Int64.toInt_inj.mp q)
      exact ⟨fun _ => by omega, fun _ => by decide⟩
theorem lg_le {x y : Int64} : lg_cmp x y ≤ 0 ↔ x.toInt ≤ y.toInt := by
  have h := lg_gt (x := x) (y := y)
  constructor
  · intro q
    rcases Int.lt_or_le y.toInt x.toInt with z | z
    · have := h.mpr z
      rw [Int32.lt_iff_toInt_lt] at this
      rw [Int32.le_iff_toInt_le] at q
      omega
    · exact z
  · intro q
    rw [Int32.le_iff_toInt_le]
    rcases Int.lt_or_le (0 : Int32).toInt (lg_cmp x y).toInt with z | z
    · have := h.mp (Int32.lt_iff_toInt_lt.mpr z)
      omega
    · exact z
theorem lg_ge {x y : Int64} : 0 ≤ lg_cmp x y ↔ y.toInt ≤ x.toInt := by
  have h := lg_lt (x := x) (y := y)
  constructor
  · intro q
    rcases Int.lt_or_le x.toInt y.toInt with z | z
    · have := h.mpr z
      rw [Int32.lt_iff_toInt_lt] at this
      rw [Int32.le_iff_toInt_le] at q
      omega
    · exact z
  · intro q
    rw [Int32.le_iff_toInt_le]
    rcases Int.lt_or_le (lg_cmp x y).toInt (0 : Int32).toInt with z | z
    · have := h.mp (Int32.lt_iff_toInt_lt.mpr z)
      omega
    · exact z
theorem gw_xor_signJ {x y : Int64} (hy : 0 ≤ y.toInt) : 0 ≤ (x ^^^ y).toInt ↔ 0 ≤ x.toInt := by
  have e2 : ∀ z : Int64, z.toBitVec.msb = decide (z.toInt < 0) := fun z => by rw [BitVec.msb_eq_toInt]; rfl
  have e1 : (x ^^^ y).toBitVec.msb = (x.toBitVec.msb ^^ y.toBitVec.msb) := by rw [Int64.toBitVec_xor, BitVec.msb_xor]
  rw [e2, e2, e2] at e1
  have e3 : decide (y.toInt < 0) = false := by simp; omega
  rw [e3, Bool.xor_false] at e1
  have e4 : (x ^^^ y).toInt < 0 ↔ x.toInt < 0 := by simpa using e1
  omega
theorem gw_subJ {a b : Int64} (h1 : -9223372036854775808 ≤ a.toInt - b.toInt) (h2 : a.toInt - b.toInt ≤ 9223372036854775807) : (a - b).toInt = a.toInt - b.toInt := by
  rw [Int64.toInt_sub]
  exact Int.bmod_eq_of_le (by omega) (by omega)
theorem gw_addJ {a b : Int64} (h1 : -9223372036854775808 ≤ a.toInt + b.toInt) (h2 : a.toInt + b.toInt ≤ 9223372036854775807) : (a + b).toInt = a.toInt + b.toInt := by
  rw [Int64.toInt_add]
  exact Int.bmod_eq_of_le (by omega) (by omega)
theorem gw_mulJ {a b : Int64} (h1 : -9223372036854775808 ≤ a.toInt * b.toInt) (h2 : a.toInt * b.toInt ≤ 9223372036854775807) : (a * b).toInt = a.toInt * b.toInt := by
  rw [Int64.toInt_mul]
  exact Int.bmod_eq_of_le (by omega) (by omega)
theorem gw_divJ {x y : Int64} (hy : 0 < y.toInt) : (x / y).toInt = x.toInt.tdiv y.toInt := by
  have b1 := Int64.le_toInt x
  have b2 := Int64.toInt_lt x
  obtain ⟨t1, t2⟩ := gw_tdivB x.toInt y.toInt hy
  rw [Int64.toInt_div]
  rcases Int.lt_or_le x.toInt 0 with h | h
  · rw [t2 h]
    have := (gw_mulB (X := -x.toInt) hy) (by omega)
    exact Int.bmod_eq_of_le (by omega) (by omega)
  · rw [t1 h]
    have := (gw_mulB (X := x.toInt) hy) h
    exact Int.bmod_eq_of_le (by omega) (by omega)
theorem gw_qyJ {x y v : Int64} (hy : 0 < y.toInt) (e : v = x / y) : (v * y).toInt = x.toInt.tdiv y.toInt * y.toInt := by
  have b1 := Int64.le_toInt x
  have b2 := Int64.toInt_lt x
  obtain ⟨t1, t2⟩ := gw_tdivB x.toInt y.toInt hy
  have hv : v.toInt = x.toInt.tdiv y.toInt := by rw [e]; exact gw_divJ hy
  rw [← hv]
  apply gw_mulJ
  · rw [hv]
    rcases Int.lt_or_le x.toInt 0 with h | h
    · rw [t2 h, Int.neg_mul]
      have := (gw_mulB (X := -x.toInt) hy) (by omega)
      omega
    · rw [t1 h]
      have := (gw_mulB (X := x.toInt) hy) h
      omega
  · rw [hv]
    rcases Int.lt_or_le x.toInt 0 with h | h
    · rw [t2 h, Int.neg_mul]
      have := (gw_mulB (X := -x.toInt) hy) (by omega)
      omega
    · rw [t1 h]
      have := (gw_mulB (X := x.toInt) hy) h
      omega
theorem gw_vlo {x y : Int64} (hy : 0 < y.toInt) (hx : x.toInt < 0) (h3 : ¬ -((-x.toInt) / y.toInt) * y.toInt = x.toInt) : x.toInt + 1 ≤ -((-x.toInt) / y.toInt) := by
  have hm := (gw_mulB (X := -x.toInt) hy) (by omega)
  have hz : (-x.toInt) / y.toInt * 1 ≤ (-x.toInt) / y.toInt * y.toInt := Int.mul_le_mul_of_nonneg_left (by omega) hm.2.2.1
  have hw : -((-x.toInt) / y.toInt) * y.toInt = -((-x.toInt) / y.toInt * y.toInt) := Int.neg_mul _ _
  omega
theorem cb_fdJ (S : gw_S) (x y : Int64) (hy : 0 < y.toInt) : (f_Math_fdJ S x y).1.toInt = x.toInt / y.toInt := by
  have b1 := Int64.le_toInt x
  obtain ⟨t1, t2⟩ := gw_tdivB x.toInt y.toInt hy
  have hs := gw_xor_signJ (x := x) (y := y) (by omega)
  unfold f_Math_fdJ
  refine po_n (Φ := fun p : Int64 × gw_S => p.1.toInt = x.toInt / y.toInt) (fun v e => ?_)
  have hv : v.toInt = x.toInt.tdiv y.toInt := by rw [e]; exact gw_divJ hy
  have hp := gw_qyJ hy e
  have hz0 : (0 : Int64).toInt = 0 := rfl
  refine po_if (Φ := fun p : Int64 × gw_S => p.1.toInt = x.toInt / y.toInt) (fun h => ?_) (fun h => ?_)
  · have h1 := lg_ge.mp h
    rw [hz0] at h1
    rw [← t1 (hs.mp h1)]; exact hv
  · have hx : x.toInt < 0 := by
      rcases Int.lt_or_le x.toInt 0 with q | q
      · exact q
      · exact absurd (lg_ge.mpr (by rw [hz0]; exact hs.mpr q)) h
    obtain ⟨n1, n2⟩ := gw_fdN x.toInt y.toInt hy hx
    have hvt : v.toInt = -((-x.toInt) / y.toInt) := by rw [hv, t2 hx]
    rw [t2 hx] at hp
    refine po_if (Φ := fun p : Int64 × gw_S => p.1.toInt = x.toInt / y.toInt) (fun h2 => ?_) (fun h2 => ?_)
    · have h3 : -((-x.toInt) / y.toInt) * y.toInt = x.toInt := by rw [← hp, lg_eq.mp h2]
      rw [n1 h3]; exact hvt
    · have h3 : ¬ -((-x.toInt) / y.toInt) * y.toInt = x.toInt := fun q => h2 (lg_eq.mpr (Int64.toInt_inj.mp (by rw [hp, q])))
      have hlo := gw_vlo hy hx h3
      rw [n2 h3]
      show (v - (1 : Int64)).toInt = _
      have h1 : (1 : Int64).toInt = 1 := rfl
      have b3 := Int64.toInt_lt v
      rw [gw_subJ (by omega) (by omega), h1, hvt]
theorem rb_div (S : gw_S) (x y : Int64) (hy : 0 < y.toInt) : (f_Model_div S x y).1.toInt = x.toInt / y.toInt := by
  have b1 := Int64.le_toInt x
  obtain ⟨t1, t2⟩ := gw_tdivB x.toInt y.toInt hy
  unfold f_Model_div
  refine po_n (Φ := fun p : Int64 × gw_S => p.1.toInt = x.toInt / y.toInt) (fun v e => ?_)
  have hv : v.toInt = x.toInt.tdiv y.toInt := by rw [e]; exact gw_divJ hy
  have hp := gw_qyJ hy e
  refine po_if (Φ := fun p : Int64 × gw_S => p.1.toInt = x.toInt / y.toInt) (fun h => ?_) (fun h => ?_)
  · have h1 := lg_le.mp h
    rcases Int.lt_or_le x.toInt 0 with hx | hx
    · obtain ⟨n1, n2⟩ := gw_fdN x.toInt y.toInt hy hx
      rw [hp, t2 hx] at h1
      have hm := (gw_mulB (X := -x.toInt) hy) (by omega)
      have hw : -((-x.toInt) / y.toInt) * y.toInt = -((-x.toInt) / y.toInt * y.toInt) := Int.neg_mul _ _
      rw [n1 (by omega), hv, t2 hx]
    · rw [hv, t1 hx]
  · have h1 : ¬ (v * y).toInt ≤ x.toInt := fun q => h (lg_le.mpr q)
    rcases Int.lt_or_le x.toInt 0 with hx | hx
    · obtain ⟨n1, n2⟩ := gw_fdN x.toInt y.toInt hy hx
      rw [hp, t2 hx] at h1
      have h3 : ¬ -((-x.toInt) / y.toInt) * y.toInt = x.toInt := by omega
      have hlo := gw_vlo hy hx h3
      rw [n2 h3]
      have hvt : v.toInt = -((-x.toInt) / y.toInt) := by rw [hv, t2 hx]
      show (v - (1 : Int64)).toInt = _
      have h2 : (1 : Int64).toInt = 1 := rfl
      have b3 := Int64.toInt_lt v
      rw [gw_subJ (by omega) (by omega), h2, hvt]
    · rw [hp, t1 hx] at h1
      have := (gw_mulB (X := x.toInt) hy) hx
      omega
theorem e_fd (S T : gw_S) (x y : Int64) (hy : 0 < y.toInt) : (f_Math_fdJ S x y).1 = (f_Model_div T x y).1 := Int64.toInt_inj.mp (by rw [cb_fdJ S x y hy, rb_div T x y hy])
theorem e_i64 (x : Int32) : x.toInt64.toInt = x.toInt := by simp
theorem e_l2i {x : Int64} (h1 : -2147483648 ≤ x.toInt) (h2 : x.toInt ≤ 2147483647) : x.toInt32.toInt = x.toInt := by
  rw [Int64.toInt_toInt32]
  exact Int.bmod_eq_of_le (by omega) (by omega)
theorem e_sc {S T : gw_S} {b z : Int32} (hb : vp_in b 256) (hz : cSh z) (ht : T 0 22 = z) : (f_Painter_scaled S b z).1 = (f_Model_scaled T b).1 := by
  apply Int32.toInt_inj.mp
  rw [cb_scaledI S b z hb hz]
  have hz := cSh_i hz
  rw [vp_in_iff] at hb
  have h := gw_bz (b := b.toInt) (z := z.toInt) (by omega) (by omega) (by omega) (by omega)
  show _ = ((f_Model_div T (b.toInt64 * (T 0 22).toInt64) (64 : Int64)).1).toInt32.toInt
  have hm : (b.toInt64 * z.toInt64).toInt = b.toInt * z.toInt := by
    rw [gw_mulJ (by rw [e_i64, e_i64]; omega) (by rw [e_i64, e_i64]; omega), e_i64, e_i64]
  have hd := rb_div T (b.toInt64 * z.toInt64) (64 : Int64) (by decide)
  rw [hm, show (64 : Int64).toInt = 64 from rfl] at hd
  rw [ht, e_l2i (by rw [hd]; omega) (by rw [hd]; omega), hd]
theorem e_half {S T : gw_S} {x : Int32} (h : cSb x) : (f_Math_fdI S x (2 : Int32)).1 = ((f_Model_div T x.toInt64 (2 : Int64)).1).toInt32 := by
  apply Int32.toInt_inj.mp
  have hd := rb_div T x.toInt64 (2 : Int64) (by decide)
  rw [e_i64, show (2 : Int64).toInt = 2 from rfl] at hd
  unfold cSb at h
  rw [cb_fdI S x (2 : Int32) (by decide), show (2 : Int32).toInt = 2 from rfl, e_l2i (by rw [hd]; omega) (by rw [hd]; omega), hd]
