def cSb (x : Int32) : Prop := -130560 ≤ x.toInt ∧ x.toInt ≤ 130560
def cXb (a x : Int32) : Prop := -(32768 + 261120 * a.toInt) ≤ x.toInt ∧ x.toInt ≤ 32768 + 261120 * a.toInt
def cGb (a x : Int32) : Prop := -(163328 + 261120 * a.toInt) ≤ x.toInt ∧ x.toInt ≤ 163328 + 261120 * a.toInt
def cZb (x : Int32) : Prop := -1338368 ≤ x.toInt ∧ x.toInt ≤ 1338368
def cBb (x : Int32) : Prop := -1468928 ≤ x.toInt ∧ x.toInt ≤ 1468928
theorem cSh_i {x : Int32} (h : cSh x) : -32768 ≤ x.toInt ∧ x.toInt ≤ 32767 := by
  unfold cSh at h
  have h1 := Int16.le_toInt x.toInt16
  have h2 := Int16.toInt_lt x.toInt16
  have h3 : x.toInt16.toInt32.toInt = x.toInt16.toInt := by simp
  rw [h] at h3
  omega
theorem cSh_64 : cSh (64 : Int32) := by unfold cSh; decide
theorem cOK_sh {S : gw_S} {v : Int32} {i : Nat} (h : cOK S) (e : v = S 4 i) : cSh v := by rw [e]; exact (h 4 i).2.1 rfl
theorem cXb_0 {x : Int32} (h : cSh x) : cXb (0 : Int32) x := by
  have h1 := cSh_i h
  unfold cXb
  rw [Int32.toInt_zero]
  omega
theorem cXb_z {a x : Int32} {K : Nat} (h : cXb a x) (h6 : a.toInt + (K : Int) = 5) : cZb x := by
  unfold cXb at h; unfold cZb; omega
theorem cXb_g {a x s v : Int32} {K : Nat} (e : v = x - s) (h : cXb a x) (hs : cSb s) (hK : K ≤ 5) (h6 : a.toInt + (K : Int) = 5) : cGb a v := by
  unfold cXb at h; unfold cSb at hs; unfold cGb
  have h1 := gw_subI (a := x) (b := s) (by omega) (by omega)
  rw [e, h1]; omega
theorem cXb_p {a x s v : Int32} {K : Nat} (e : v = x + s) (h : cGb a x) (hs : cSb s) (hK : K ≤ 5) (h6 : a.toInt + (K : Int) = 5) (h4 : a.toInt ≤ 4) : cXb (a + (1 : Int32)) v := by
  unfold cGb at h; unfold cSb at hs; unfold cXb
  have h1 := gw_addI (a := x) (b := s) (by omega) (by omega)
  have h2 := gw_add1 (i := a) (by omega)
  rw [e, h1, h2]; omega
theorem cZb_b {x s v : Int32} (e : v = x - s) (h : cZb x) (hs : cSb s) : cBb v := by
  unfold cZb at h; unfold cSb at hs; unfold cBb
  have h1 := gw_subI (a := x) (b := s) (by omega) (by omega)
  rw [e, h1]; omega
theorem cBb_y {x s : Int32} (h : cBb x) (hs : cSb s) : cYb (x + s) := by
  unfold cBb at h; unfold cSb at hs; unfold cYb
  have h1 := gw_addI (a := x) (b := s) (by omega) (by omega)
  rw [h1]; omega
theorem gw_inL {i b : Int32} {N : Nat} (hb : vp_in b N) (h : ¬ b ≤ i) (h0 : 0 ≤ i.toInt) : vp_in i N := by
  rw [vp_in_iff] at hb ⊢
  rw [Int32.le_iff_toInt_le] at h
  omega
theorem gw_xor_sign {x y : Int32} (hy : 0 ≤ y.toInt) : 0 ≤ (x ^^^ y) ↔ 0 ≤ x.toInt := by
  rw [Int32.le_iff_toInt_le, Int32.toInt_zero]
  have e2 : ∀ z : Int32, z.toBitVec.msb = decide (z.toInt < 0) := fun z => by rw [BitVec.msb_eq_toInt]; rfl
  have e1 : (x ^^^ y).toBitVec.msb = (x.toBitVec.msb ^^ y.toBitVec.msb) := by rw [Int32.toBitVec_xor, BitVec.msb_xor]
  rw [e2, e2, e2] at e1
  have e3 : decide (y.toInt < 0) = false := by simp; omega
  rw [e3, Bool.xor_false] at e1
  have e4 : (x ^^^ y).toInt < 0 ↔ x.toInt < 0 := by simpa using e1
  omega
theorem gw_tdivB (X Y : Int) (hY : 0 < Y) : (0 ≤ X → X.tdiv Y = X / Y) ∧ (X < 0 → X.tdiv Y = -((-X) / Y)) := by
  constructor
  · intro h; exact Int.tdiv_eq_ediv_of_nonneg h
  · intro h
    have h1 : X.tdiv Y = -((-X).tdiv Y) := by rw [Int.neg_tdiv, Int.neg_neg]
    rw [h1, Int.tdiv_eq_ediv_of_nonneg (by omega)]
theorem gw_fdN (X Y : Int) (hY : 0 < Y) (hX : X < 0) : (-((-X) / Y) * Y = X → X / Y = -((-X) / Y)) ∧ (¬ -((-X) / Y) * Y = X → X / Y = -((-X) / Y) - 1) := by
  have a1 := Int.mul_ediv_add_emod (-X) Y
  have a2 := Int.emod_nonneg (-X) (by omega : Y ≠ 0)
  have a3 := Int.emod_lt_of_pos (-X) hY
  have hc : (-X) / Y * Y = Y * ((-X) / Y) := Int.mul_comm _ _
  constructor
  · intro h
    have h2 : X = Y * (-((-X) / Y)) := by rw [Int.mul_comm]; exact h.symm
    rw [show X / Y = (Y * (-((-X) / Y))) / Y from by rw [← h2]]
    exact Int.mul_ediv_cancel_left _ (by omega)
  · intro h
    have hr : 0 < (-X) % Y := by
      rcases Int.lt_or_le 0 ((-X) % Y) with q | q
      · exact q
      · exfalso
        apply h
        rw [Int.neg_mul, hc]
        omega
    have h2 : X = Y * (-((-X) / Y) - 1) + (Y - (-X) % Y) := by
      rw [Int.mul_sub, Int.mul_neg, Int.mul_one]
      omega
    exact ((Int.ediv_emod_unique (a := X) (b := Y) (r := Y - (-X) % Y) (q := -((-X) / Y) - 1) hY).mpr ⟨by rw [Int.add_comm]; exact h2.symm, by omega, by omega⟩).1
theorem gw_mulB {X Y : Int} (hY : 0 < Y) : (0 ≤ X → 0 ≤ X / Y * Y ∧ X / Y * Y ≤ X ∧ 0 ≤ X / Y ∧ X / Y ≤ X) := by
  intro h
  have a1 := Int.mul_ediv_add_emod X Y
  have a2 := Int.emod_nonneg X (by omega : Y ≠ 0)
  have a3 := Int.emod_lt_of_pos X hY
  have a4 : 0 ≤ X / Y := Int.ediv_nonneg h (by omega)
  have a5 : X / Y ≤ X := Int.ediv_le_self _ h
  have hc : X / Y * Y = Y * (X / Y) := Int.mul_comm _ _
  have a6 : 0 ≤ Y * (X / Y) := Int.mul_nonneg (by omega) a4
  omega
theorem cb_fdI (S : gw_S) (x y : Int32) (hy : 0 < y.toInt) : (f_Math_fdI S x y).1.toInt = x.toInt / y.toInt := by
  have b1 := Int32.le_toInt x
  have b2 := Int32.toInt_lt x
  obtain ⟨t1, t2⟩ := gw_tdivB x.toInt y.toInt hy
  have hq : (x / y).toInt = x.toInt.tdiv y.toInt := by
    rw [Int32.toInt_div]
    rcases Int.lt_or_le x.toInt 0 with h | h
    · rw [t2 h]
      have := (gw_mulB (X := -x.toInt) hy) (by omega)
      exact Int.bmod_eq_of_le (by omega) (by omega)
    · rw [t1 h]
      have := (gw_mulB (X := x.toInt) hy) h
      exact Int.bmod_eq_of_le (by omega) (by omega)
  have hs := gw_xor_sign (x := x) (y := y) (by omega)
  unfold f_Math_fdI
  refine po_n (Φ := fun p : Int32 × gw_S => p.1.toInt = x.toInt / y.toInt) (fun v e => ?_)
  have hv : v.toInt = x.toInt.tdiv y.toInt := by rw [e]; exact hq
  refine po_if (Φ := fun p : Int32 × gw_S => p.1.toInt = x.toInt / y.toInt) (fun h => ?_) (fun h => ?_)
  · rw [← t1 (hs.mp h)]; exact hv
  · have hx : x.toInt < 0 := by
      rcases Int.lt_or_le x.toInt 0 with q | q
      · exact q
      · exact absurd (hs.mpr q) h
    obtain ⟨n1, n2⟩ := gw_fdN x.toInt y.toInt hy hx
    have hm := (gw_mulB (X := -x.toInt) hy) (by omega)
    have hvt : v.toInt = -((-x.toInt) / y.toInt) := by rw [hv, t2 hx]
    have hp : (v * y).toInt = -((-x.toInt) / y.toInt) * y.toInt := by
      rw [Int32.toInt_mul, hvt]
      have : -((-x.toInt) / y.toInt) * y.toInt = -((-x.toInt) / y.toInt * y.toInt) := Int.neg_mul _ _
      exact Int.bmod_eq_of_le (by omega) (by omega)
    refine po_if (Φ := fun p : Int32 × gw_S => p.1.toInt = x.toInt / y.toInt) (fun h2 => ?_) (fun h2 => ?_)
    · have h3 : -((-x.toInt) / y.toInt) * y.toInt = x.toInt := by rw [← hp, h2]
      rw [n1 h3]; exact hvt
    · have h3 : ¬ -((-x.toInt) / y.toInt) * y.toInt = x.toInt := by
        intro q
        apply h2
        apply Int32.toInt_inj.mp
        rw [hp, q]
      have hz : (-x.toInt) / y.toInt * 1 ≤ (-x.toInt) / y.toInt * y.toInt := Int.mul_le_mul_of_nonneg_left (by omega) hm.2.2.1
      have hw : -((-x.toInt) / y.toInt) * y.toInt = -((-x.toInt) / y.toInt * y.toInt) := Int.neg_mul _ _
      rw [n2 h3]
      show (v - (1 : Int32)).toInt = _
      have h1 : (1 : Int32).toInt = 1 := rfl
      rw [gw_subI (by omega) (by omega), h1, hvt]
theorem gw_mulI {a b : Int32} (h1 : -2147483648 ≤ a.toInt * b.toInt) (h2 : a.toInt * b.toInt ≤ 2147483647) : (a * b).toInt = a.toInt * b.toInt := by
  rw [Int32.toInt_mul]
  exact Int.bmod_eq_of_le (by omega) (by omega)
theorem gw_bz {b z : Int} (h0 : 0 ≤ b) (h1 : b ≤ 255) (h2 : -32768 ≤ z) (h3 : z ≤ 32767) : -8355840 ≤ b * z ∧ b * z ≤ 8355585 := by
  have a1 : b * z ≤ b * 32767 := Int.mul_le_mul_of_nonneg_left h3 h0
  have a2 : b * (-32768) ≤ b * z := Int.mul_le_mul_of_nonneg_left h2 h0
  omega
theorem cb_scaledI (S : gw_S) (b z : Int32) (hb : vp_in b 256) (hz : cSh z) : (f_Painter_scaled S b z).1.toInt = b.toInt * z.toInt / 64 := by
  have hz := cSh_i hz
  rw [vp_in_iff] at hb
  have h := gw_bz (b := b.toInt) (z := z.toInt) (by omega) (by omega) (by omega) (by omega)
  have e1 := gw_mulI (a := b) (b := z) (by omega) (by omega)
  have e2 := cb_fdI S (b * z) (64 : Int32) (by decide)
  rw [e1, show (64 : Int32).toInt = 64 from rfl] at e2
  exact e2
theorem cb_scaled (S : gw_S) (b z : Int32) (hb : vp_in b 256) (hz : cSh z) : cSb (f_Painter_scaled S b z).1 := by
  have e := cb_scaledI S b z hb hz
  have hz := cSh_i hz
  rw [vp_in_iff] at hb
  have h := gw_bz (b := b.toInt) (z := z.toInt) (by omega) (by omega) (by omega) (by omega)
  unfold cSb
  rw [e]
  omega
theorem cb_half (S : gw_S) (x : Int32) (h : cSb x) : cSb (f_Math_fdI S x (2 : Int32)).1 := by
  have e := cb_fdI S x (2 : Int32) (by decide)
  rw [show (2 : Int32).toInt = 2 from rfl] at e
  unfold cSb at h ⊢
  rw [e]
  omega

