def c_fin (S : gw_S) (base a b : Nat) (k : Int32) : gw_S := if a < b then gw_u (gw_a S 10 (e_ff (S 10) (base + a) (base + b) k)) 6 7 (S 6 7 + (1 : Int32)) else S
theorem u_max (S : gw_S) (a b : Int32) : (f_Math_max S a b).1.toInt = max a.toInt b.toInt ∧ (f_Math_max S a b).2 = S := by
  unfold f_Math_max
  refine po_if (Φ := fun p : Int32 × gw_S => p.1.toInt = max a.toInt b.toInt ∧ p.2 = S) (fun h => ?_) (fun h => ?_)
  · rw [Int32.lt_iff_toInt_lt] at h; dsimp only; exact ⟨by omega, rfl⟩
  · rw [Int32.lt_iff_toInt_lt] at h; dsimp only; exact ⟨by omega, rfl⟩
theorem u_min (S : gw_S) (a b : Int32) : (f_Math_min S a b).1.toInt = min a.toInt b.toInt ∧ (f_Math_min S a b).2 = S := by
  unfold f_Math_min
  refine po_if (Φ := fun p : Int32 × gw_S => p.1.toInt = min a.toInt b.toInt ∧ p.2 = S) (fun h => ?_) (fun h => ?_)
  · rw [Int32.lt_iff_toInt_lt] at h; dsimp only; exact ⟨by omega, rfl⟩
  · rw [Int32.lt_iff_toInt_lt] at h; dsimp only; exact ⟨by omega, rfl⟩
theorem e_st {d h s : Int} (hh : 0 < h) (hs : s = 65536 * d / h) (hd1 : -4194304 ≤ d) (hd2 : d ≤ 4194304) (hh2 : h ≤ 4194304) {j : Int} (hj0 : 0 ≤ j) (hj : j < h) : -274882101248 ≤ j * s ∧ j * s ≤ 274882101248 := by
  have a1 := Int.mul_ediv_add_emod (65536 * d) h
  have a2 := Int.emod_nonneg (65536 * d) (by omega : h ≠ 0)
  have a3 := Int.emod_lt_of_pos (65536 * d) hh
  rw [← hs] at a1
  rcases Int.lt_or_le s 0 with q | q
  · have m1 : h * s ≤ j * s := Int.mul_le_mul_of_nonpos_right (by omega) (by omega)
    have m2 : j * s ≤ 0 := Int.mul_nonpos_of_nonneg_of_nonpos hj0 (by omega)
    omega
  · have m1 : j * s ≤ h * s := Int.mul_le_mul_of_nonneg_right (by omega) q
    have m2 : 0 ≤ j * s := Int.mul_nonneg hj0 q
    omega
theorem e_stJ {T : gw_S} {d h : Int32} (hh : 0 < h.toInt) (hd1 : -4194304 ≤ d.toInt) (hd2 : d.toInt ≤ 4194304) : (f_Model_div T ((65536 : Int64) * d.toInt64) h.toInt64).1.toInt = 65536 * d.toInt / h.toInt := by
  rw [rb_div T _ _ (by rw [e_i64]; exact hh), e_i64]
  have h1 : (65536 : Int64).toInt = 65536 := rfl
  rw [gw_mulJ (by rw [e_i64, h1]; omega) (by rw [e_i64, h1]; omega), e_i64, h1]
theorem e_ed {T : gw_S} {a j d h : Int32} (ha : cYb a) (hh : 0 < h.toInt) (hh2 : h.toInt ≤ 4194304) (hd1 : -4194304 ≤ d.toInt) (hd2 : d.toInt ≤ 4194304) (hj0 : 0 ≤ j.toInt) (hj : j.toInt < h.toInt) : -2147483648 ≤ (f_Model_div T (((65536 : Int64) * a.toInt64) + (32768 : Int64) + j.toInt64 * (f_Model_div T ((65536 : Int64) * d.toInt64) h.toInt64).1) (65536 : Int64)).1.toInt ∧ (f_Model_div T (((65536 : Int64) * a.toInt64) + (32768 : Int64) + j.toInt64 * (f_Model_div T ((65536 : Int64) * d.toInt64) h.toInt64).1) (65536 : Int64)).1.toInt ≤ 2147483647 := by
  have hs := e_stJ (T := T) hh hd1 hd2
  generalize (f_Model_div T ((65536 : Int64) * d.toInt64) h.toInt64).1 = st at hs
  have hb := e_st hh hs hd1 hd2 hh2 hj0 hj
  unfold cYb at ha
  have h1 : (65536 : Int64).toInt = 65536 := rfl
  have h2 : (32768 : Int64).toInt = 32768 := rfl
  have m1 : ((65536 : Int64) * a.toInt64).toInt = 65536 * a.toInt := by rw [gw_mulJ (by rw [e_i64, h1]; omega) (by rw [e_i64, h1]; omega), e_i64, h1]
  have m2 : (j.toInt64 * st).toInt = j.toInt * st.toInt := by rw [gw_mulJ (by rw [e_i64]; omega) (by rw [e_i64]; omega), e_i64]
  have m3 : (((65536 : Int64) * a.toInt64) + (32768 : Int64)).toInt = 65536 * a.toInt + 32768 := by rw [gw_addJ (by rw [m1, h2]; omega) (by rw [m1, h2]; omega), m1, h2]
  have m4 : (((65536 : Int64) * a.toInt64) + (32768 : Int64) + j.toInt64 * st).toInt = 65536 * a.toInt + 32768 + j.toInt * st.toInt := by rw [gw_addJ (by rw [m3, m2]; omega) (by rw [m3, m2]; omega), m3, m2]
  rw [rb_div T _ _ (by decide), m4, h1]
  omega
theorem eG_row {j base a b : Nat} {k : Int32} {S T : gw_S} (h : eG j S T) : eG j (c_fin S base a b k) (r_fin T (0 : Int32) base a b 0 k) := by
  unfold c_fin r_fin
  rw [Nat.max_zero]
  by_cases c : a < b
  · rw [if_pos c, if_pos c, eR_f10 h.1, eR_g h.1 eL67]
    have hp := eG_px (f := e_ff (T 4) (base + a) (base + b) k) h
    obtain ⟨h1, h2, h3, h4, h5, h6⟩ := hp
    refine ⟨eR_m h1 eL67, ?_, ?_, ?_, ?_, fun q hq => ?_⟩
    · rw [gw_un (by omega)]; exact h2
    · rw [gw_un (by omega), gw_un (by omega)]; exact h3
    · rw [gw_un (by omega), gw_un (by omega)]; exact h4
    · rw [gw_un (by omega)]; exact h5
    · rw [gw_un (by omega), gw_un (by omega)]; exact h6 q hq
  · rw [if_neg c, if_neg c, if_pos rfl]; exact h
theorem c_fo {S : gw_S} {base a b : Nat} {k : Int32} {i q : Nat} (h1 : i ≠ 10) (h2 : ¬ (i = 6 ∧ q = 7)) : c_fin S base a b k i q = S i q := by
  unfold c_fin
  split
  · rw [gw_un h2, gw_ao h1]
  · rfl
theorem r_fo {T : gw_S} {f : Int32} {base a b p : Nat} {k : Int32} {i q : Nat} (h1 : i ≠ 4) (h2 : ¬ (i = 0 ∧ q = 15)) : r_fin T f base a b p k i q = T i q := by
  unfold r_fin
  split
  · rw [gw_un h2, gw_ao h1]
  · split
    · rfl
    · rw [gw_un h2]
theorem c_body {S : gw_S} {w r A B : Nat} {a1 a3 y4 x : Int32} {sL sR lo hi : Int64} (hw : w < 4) (hr : r < 40) (hS : S 9 1 = nI w) (hy : y4 + x = nI r) (e1 : (f_Painter_edgeAt S (S 12 a1.toNatClampNeg) sL x).1 = lo.toInt32) (e2 : (f_Painter_edgeAt S (S 11 a1.toNatClampNeg) sR x).1 = hi.toInt32) (b1 : -2147483648 ≤ lo.toInt ∧ lo.toInt ≤ 2147483647) (b2 : -2147483648 ≤ hi.toInt ∧ hi.toInt ≤ 2147483647) (hA : A = (max lo.toInt 0).toNat) (hB : B = (min hi.toInt 63 + 1).toNat) {γ : Type} (self : gw_S → γ) : (gw_b (f_Painter_edgeAt S (S 12 a1.toNatClampNeg) sL x) fun r103 S103 => gw_b (f_Math_max S103 r103 (0 : Int32)) fun r107 S107 => gw_b (f_Painter_edgeAt S107 (S107 11 a1.toNatClampNeg) sR x) fun r122 S122 => gw_b (f_Math_min S122 r122 (63 : Int32)) fun r127 S127 => if r127 < r107 then (self S127) else (gw_b (f_Pages_startOfRow S127 (y4 + x)) fun r148 S148 => gw_b (f_Arrays_fill S148 (r148 + r107) ((r148 + r127) + (1 : Int32)) (a3.toInt8.toInt32)) fun _ S174 => gw_n (gw_u S174 6 7 ((S174 6 7) + (1 : Int32))) fun S184 => (self S184))) = self (c_fin S (2560 * w + 64 * r) A B (vp_nar .byte a3.toInt8.toInt32)) := by
  have es : ∀ (U : gw_S) (p : Int32) (q : Int64) (t : Int32), f_Painter_edgeAt U p q t = ((f_Painter_edgeAt U p q t).1, U) := fun _ _ _ _ => rfl
  have m1 := u_max S lo.toInt32 (0 : Int32)
  have m2 := u_min S hi.toInt32 (63 : Int32)
  rw [es S (S 12 a1.toNatClampNeg) sL x, gw_bm, e1]
  generalize f_Math_max S lo.toInt32 (0 : Int32) = mx at m1 ⊢
  obtain ⟨fr, S1⟩ := mx
  obtain ⟨m1, rfl⟩ := m1
  rw [gw_bm, es S1 (S1 11 a1.toNatClampNeg) sR x, gw_bm, e2]
  generalize f_Math_min S1 hi.toInt32 (63 : Int32) = mn at m2 ⊢
  obtain ⟨to, S2⟩ := mn
  obtain ⟨m2, rfl⟩ := m2
  rw [gw_bm]
  rw [e_l2i b1.1 b1.2, Int32.toInt_zero] at m1
  rw [e_l2i b2.1 b2.2, show (63 : Int32).toInt = 63 from rfl] at m2
  dsimp only at m1 m2 hS e1 e2
  by_cases c : A < B
  · have hA2 : fr = nI A := Int32.toInt_inj.mp (by rw [nI_toInt (by omega), m1]; omega)
    have hB2 : to = nI (B - 1) := Int32.toInt_inj.mp (by rw [nI_toInt (by omega), m2]; omega)
    rw [if_neg (by rw [Int32.lt_iff_toInt_lt]; omega)]
    have es2 : f_Pages_startOfRow S2 (y4 + x) = (nI (2560 * w + 64 * r), S2) := by
      show (S2 9 1 * (2560 : Int32) + (y4 + x) * (64 : Int32), S2) = _
      rw [hS, hy, show (2560 : Int32) = nI 2560 from rfl, show (64 : Int32) = nI 64 from rfl, pk_mul, pk_mul, nI_add, Nat.mul_comm w, Nat.mul_comm r]
    rw [es2, gw_bm, hA2, hB2, nI_add, nI_add, nI_1, show 2560 * w + 64 * r + (B - 1) + 1 = 2560 * w + 64 * r + B from by omega]
    show self (gw_u (f_Arrays_fill S2 (nI (2560 * w + 64 * r + A)) (nI (2560 * w + 64 * r + B)) a3.toInt8.toInt32).2 6 7 ((f_Arrays_fill S2 (nI (2560 * w + 64 * r + A)) (nI (2560 * w + 64 * r + B)) a3.toInt8.toInt32).2 6 7 + (1 : Int32))) = _
    rw [u_cfill (by omega) (by omega) (by omega), gw_ao (by omega)]
    unfold c_fin
    rw [if_pos c]
  · rw [if_pos (by rw [Int32.lt_iff_toInt_lt]; omega)]
    unfold c_fin
    rw [if_neg c]
