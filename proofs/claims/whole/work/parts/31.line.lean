def r_fin (T : gw_S) (f : Int32) (base a b p : Nat) (k : Int32) : gw_S := if max a p < b then gw_u (gw_a T 4 (e_ff (T 4) (base + max a p) (base + b) k)) 0 15 (T 0 15 + (1 : Int32)) else (if f = 0 then T else gw_u T 0 15 (T 0 15 + (1 : Int32)))
theorem r_lnA {lo : Int64} {p : Nat} : ¬ (lo.toInt ≤ (p : Int)) ↔ ¬ (max lo.toInt 0).toNat ≤ p := by omega
theorem r_ln {w r : Nat} {c : Int32} {lo hi : Int64} {a b : Nat} (hw : w < 4) (hr : r < 40) (ha : a = (max lo.toInt 0).toNat) (hb : b = (min hi.toInt 63 + 1).toNat) : ∀ (n : Nat) (T : gw_S) (f : Int32) (p : Nat), p ≤ 64 → 0 < n → (64 : Int) - (p : Int) < (n : Int) → T 0 4 = nI w → (fl_Model_line_79 (nI r) c lo hi n T f (nI p)).2 = r_fin T f (2560 * w + 64 * r) a b p (vp_nar .byte c.toInt8.toInt32) := by
  intro n
  induction n with
  | zero => intro T f p _ h0; exact absurd h0 (Nat.lt_irrefl 0)
  | succ n ih =>
    intro T f p hp _ hn hT
    have hb64 : b ≤ 64 := by omega
    by_cases h : 64 ≤ p
    · have u : fl_Model_line_79 (nI r) c lo hi (n + 1) T f (nI p) = (if f = 0 then ((), gw_u T 0 15 (T 0 15)) else ((), gw_u T 0 15 (T 0 15 + (1 : Int32)))) := if_pos (show (64 : Int32) ≤ nI p from nI_le (a := 64) h (by omega))
      rw [u]
      unfold r_fin
      rw [if_neg (show ¬ max a p < b by omega), eU7]
      split <;> rfl
    · have hge : ¬ (64 : Int32) ≤ nI p := nI_ge (b := 64) (by omega) (by omega)
      have hx : (nI p).toInt64.toInt = (p : Int) := by rw [e_i64, nI_toInt (by omega)]
      have hcl : ((((2560 : Int32) * T 0 4) + ((64 : Int32) * nI r)) + nI p).toNatClampNeg = 2560 * w + 64 * r + p := by
        rw [hT, show (2560 : Int32) = nI 2560 from rfl, show (64 : Int32) = nI 64 from rfl, pk_mul, pk_mul, nI_add, nI_add, nI_clamp (by omega)]
      have u : fl_Model_line_79 (nI r) c lo hi (n + 1) T f (nI p) = (if (lg_cmp (nI p).toInt64 lo) < 0 then fl_Model_line_79 (nI r) c lo hi n T f (nI p + (1 : Int32)) else (if 0 < (lg_cmp (nI p).toInt64 hi) then fl_Model_line_79 (nI r) c lo hi n T f (nI p + (1 : Int32)) else fl_Model_line_79 (nI r) c lo hi n (gw_u T 4 ((((2560 : Int32) * T 0 4) + ((64 : Int32) * nI r)) + nI p).toNatClampNeg (vp_nar .byte c.toInt8.toInt32)) (1 : Int32) (nI p + (1 : Int32)))) := if_neg hge
      rw [u, nI_1, hcl]
      by_cases c1 : (lg_cmp (nI p).toInt64 lo) < 0
      · rw [if_pos c1, ih T f (p + 1) (by omega) (by omega) (by omega) hT]
        have h1 := lg_lt.mp c1
        rw [hx] at h1
        unfold r_fin
        rw [show max a (p + 1) = max a p from by omega]
      · have h1 : ¬ (p : Int) < lo.toInt := fun q => c1 (lg_lt.mpr (by rw [hx]; exact q))
        rw [if_neg c1]
        by_cases c2 : 0 < (lg_cmp (nI p).toInt64 hi)
        · rw [if_pos c2, ih T f (p + 1) (by omega) (by omega) (by omega) hT]
          have h2 := lg_gt.mp c2
          rw [hx] at h2
          unfold r_fin
          rw [if_neg (show ¬ max a (p + 1) < b by omega), if_neg (show ¬ max a p < b by omega)]
        · have h2 : ¬ hi.toInt < (p : Int) := fun q => c2 (lg_gt.mpr (by rw [hx]; exact q))
          rw [if_neg c2, ih _ (1 : Int32) (p + 1) (by omega) (by omega) (by omega) (by rw [gw_un (by omega)]; exact hT)]
          have hap : max a p = p := by omega
          have hap1 : max a (p + 1) = p + 1 := by omega
          have hpb : p < b := by omega
          unfold r_fin
          rw [hap, hap1, if_pos hpb, gw_un (by omega)]
          by_cases c3 : p + 1 < b
          · rw [if_pos c3, gw_au, gw_ui, show 2560 * w + 64 * r + (p + 1) = (2560 * w + 64 * r + p) + 1 from by omega, e_ff1 (by omega)]
          · rw [if_neg c3, if_neg (by decide)]
            have e1 : e_ff (T 4) (2560 * w + 64 * r + p) (2560 * w + 64 * r + b) (vp_nar .byte c.toInt8.toInt32) = upd (T 4) (2560 * w + 64 * r + p) (vp_nar .byte c.toInt8.toInt32) := by
              rw [← e_ff1 (by omega), e_ff0 (by omega)]
            rw [e1]; rfl
theorem e_shr (x : Int64) : (x >>> (((16 : Int32) : Int32).toInt64 &&& 63)).toInt = x.toInt / 65536 := by
  have h : (x >>> (((16 : Int32) : Int32).toInt64 &&& 63)).toInt = x.toInt >>> 16 := by
    show (x.toBitVec.sshiftRight' _).toInt = _
    rw [BitVec.toInt_sshiftRight']
    rfl
  rw [h, Int.shiftRight_eq_div_pow]
  rfl
theorem e_edge {S T : gw_S} {a j : Int32} {st : Int64} : (f_Painter_edgeAt S a st j).1 = ((f_Model_div T (((65536 : Int64) * a.toInt64) + (32768 : Int64) + j.toInt64 * st) (65536 : Int64)).1).toInt32 := by
  have hd := rb_div T (((65536 : Int64) * a.toInt64) + (32768 : Int64) + j.toInt64 * st) (65536 : Int64) (by decide)
  rw [show (65536 : Int64).toInt = 65536 from rfl, ← e_shr] at hd
  show ((((65536 : Int64) * a.toInt64) + (32768 : Int64) + j.toInt64 * st) >>> (((16 : Int32) : Int32).toInt64 &&& 63)).toInt32 = _
  rw [Int64.toInt_inj.mp hd]
