def d_dv (x y : Int64) : Int64 := if (lg_cmp (x / y * y) x) ≤ 0 then x / y else x / y - (1 : Int64)
theorem u_div (T : gw_S) (x y : Int64) : f_Model_div T x y = (d_dv x y, T) := by
  show (if (lg_cmp (x / y * y) x) ≤ 0 then (x / y, T) else (x / y - (1 : Int64), T)) = _
  unfold d_dv
  split <;> rfl
theorem u_fdJ (S : gw_S) (x y : Int64) (hy : 0 < y.toInt) : f_Math_fdJ S x y = (d_dv x y, S) := by
  have h := e_fd S S x y hy
  rw [u_div] at h
  have h2 : (f_Math_fdJ S x y).2 = S := by
    unfold f_Math_fdJ gw_n
    dsimp only
    split
    · rfl
    · split <;> rfl
  exact Prod.ext h h2
def d_sd (a b h j : Int32) : Int64 := d_dv (((65536 : Int64) * a.toInt64) + (32768 : Int64) + j.toInt64 * d_dv ((65536 : Int64) * (b - a).toInt64) h.toInt64) (65536 : Int64)
theorem u_side (T : gw_S) (a b h j : Int32) : f_Model_side T a b h j = (d_sd a b h j, T) := by
  unfold f_Model_side d_sd
  rw [u_div, gw_bm, u_div, gw_bm]
theorem d_sdB {a b h j : Int32} (ha : cYb a) (hb : cYb b) (hh : 0 < h.toInt) (hh2 : h.toInt ≤ 4194304) (hj0 : 0 ≤ j.toInt) (hj : j.toInt < h.toInt) : -2147483648 ≤ (d_sd a b h j).toInt ∧ (d_sd a b h j).toInt ≤ 2147483647 := by
  have q1 : (b - a).toInt = b.toInt - a.toInt := by
    unfold cYb at ha hb
    exact gw_subI (by omega) (by omega)
  have ha' := ha
  unfold cYb at ha' hb
  have h1 := e_ed (T := fun _ _ => (0 : Int32)) (d := b - a) ha hh hh2 (by omega) (by omega) hj0 hj
  rw [u_div, u_div] at h1
  exact h1
theorem d_edge {S : gw_S} {a b h j : Int32} : (f_Painter_edgeAt S a (d_dv ((65536 : Int64) * (b - a).toInt64) h.toInt64) j).1 = (d_sd a b h j).toInt32 := by
  rw [e_edge (T := S), u_div]
  rfl
theorem r_line {T : gw_S} {i p w : Nat} {a3 l0 l1 r0 r1 top h : Int32} (hw : w < 4) (hp : p < 40) (hi : i < 16) (hT : T 0 4 = nI w) (a1 : T 18 i = l0) (a2 : T 18 (i + 1) = l1) (b1 : T 17 i = r0) (b2 : T 17 (i + 1) = r1) (c1 : T 19 i = top) (c2 : T 19 (i + 1) - top = h) : (f_Model_line T (nI i) (nI p) a3).2 = r_fin T 0 (2560 * w + 64 * p) (max (d_sd l0 l1 h (nI p - top)).toInt 0).toNat (min (d_sd r0 r1 h (nI p - top)).toInt 63 + 1).toNat 0 (vp_nar .byte a3.toInt8.toInt32) := by
  unfold f_Model_line gw_n
  dsimp only
  rw [nI_1, nI_clamp (n := i) (by omega), nI_clamp (n := i + 1) (by omega), u_side, gw_bm, u_side, gw_bm, a1, a2, b1, b2, c1, c2]
  exact r_ln hw hp rfl rfl _ T 0 0 (by omega) (gw_fu_pos _) (gw_fu_lt _) hT
def dF (S S' T T' : gw_S) : Prop := (∀ i q, i ≠ 10 → ¬ (i = 6 ∧ q = 7) → S' i q = S i q) ∧ (∀ i q, i ≠ 4 → ¬ (i = 0 ∧ q = 15) → T' i q = T i q)
theorem dF_0 {S T : gw_S} : dF S S T T := ⟨fun _ _ _ _ => rfl, fun _ _ _ _ => rfl⟩
theorem dF_2 {S S' S'' T T' T'' : gw_S} (h : dF S S' T T') (g : dF S' S'' T' T'') : dF S S'' T T'' := ⟨fun i q a b => (g.1 i q a b).trans (h.1 i q a b), fun i q a b => (g.2 i q a b).trans (h.2 i q a b)⟩
theorem d_rows {j w i : Nat} {K : gw_S → Unit × gw_S} {a3 y6 top h y10 l0 l1 r0 r1 : Int32} (hw : w < 4) (hi : i < 16) (ht : cYb top) (hl0 : cYb l0) (hl1 : cYb l1) (hr0 : cYb r0) (hr1 : cYb r1) (hh : 0 < h.toInt) (hh2 : h.toInt ≤ 4194304) (hy : y10.toInt = min h.toInt (40 - top.toInt)) : ∀ (m n k : Nat) (S T : gw_S) (p : Nat) (x : Int32), p + m = 40 → m < n → y10.toInt - x.toInt < (k : Int) → 0 < k → (x.toInt = max 0 ((p : Int) - top.toInt) ∨ (y10.toInt ≤ x.toInt ∧ h.toInt ≤ (p : Int) - top.toInt)) → eG j S T → S 9 1 = nI w → S 12 i = l0 → S 11 i = r0 → T 18 i = l0 → T 18 (i + 1) = l1 → T 17 i = r0 → T 17 (i + 1) = r1 → T 19 i = top → T 19 (i + 1) - top = h → (T 19 (i + 1)).toInt = top.toInt + h.toInt → ∃ T', fl_Model_polygon_158 K a3 y6 (nI i) n T (nI p) = K T' ∧ eG j (fl_Painter_drawRows_86 (nI i) a3 top (d_dv ((65536 : Int64) * (l1 - l0).toInt64) h.toInt64) (d_dv ((65536 : Int64) * (r1 - r0).toInt64) h.toInt64) y10 k S x).2 T' ∧ dF S (fl_Painter_drawRows_86 (nI i) a3 top (d_dv ((65536 : Int64) * (l1 - l0).toInt64) h.toInt64) (d_dv ((65536 : Int64) * (r1 - r0).toInt64) h.toInt64) y10 k S x).2 T T' := by
  have ht' := ht
  unfold cYb at ht'
  have hci : (nI i).toNatClampNeg = i := nI_clamp (by omega)
  have hci1 : (nI i + (1 : Int32)).toNatClampNeg = i + 1 := by rw [nI_1, nI_clamp (by omega)]
  intro m
  induction m with
  | zero =>
    intro n k S T p x hp hn hk hk0 hx hG s1 s2 s3 t1 t2 t3 t4 t5 t6 t7
    obtain ⟨n, rfl⟩ : ∃ n', n = n' + 1 := ⟨n - 1, by omega⟩
    obtain ⟨k, rfl⟩ : ∃ n', k = n' + 1 := ⟨k - 1, by omega⟩
    have u1 : fl_Model_polygon_158 K a3 y6 (nI i) (n + 1) T (nI p) = K T := if_pos (show (40 : Int32) ≤ nI p from nI_le (a := 40) (by omega) (by omega))
    have u2 : fl_Painter_drawRows_86 (nI i) a3 top (d_dv ((65536 : Int64) * (l1 - l0).toInt64) h.toInt64) (d_dv ((65536 : Int64) * (r1 - r0).toInt64) h.toInt64) y10 (k + 1) S x = ((), S) := if_pos (show y10 ≤ x by rw [Int32.le_iff_toInt_le]; omega)
    refine ⟨T, u1, ?_, ?_⟩
    · rw [u2]; exact hG
    · rw [u2]; exact dF_0
  | succ m ih =>
    intro n k S T p x hp hn hk hk0 hx hG s1 s2 s3 t1 t2 t3 t4 t5 t6 t7
    obtain ⟨n, rfl⟩ : ∃ n', n = n' + 1 := ⟨n - 1, by omega⟩
    have u1 : fl_Model_polygon_158 K a3 y6 (nI i) (n + 1) T (nI p) = (if nI p < T 19 (nI i).toNatClampNeg then fl_Model_polygon_158 K a3 y6 (nI i) n T (nI p + (1 : Int32)) else (if T 19 (nI i + (1 : Int32)).toNatClampNeg ≤ nI p then fl_Model_polygon_158 K a3 y6 (nI i) n T (nI p + (1 : Int32)) else fl_Model_polygon_158 K a3 y6 (nI i) n (f_Model_line T (nI i) (nI p) a3).2 (nI p + (1 : Int32)))) := if_neg (show ¬ (40 : Int32) ≤ nI p from nI_ge (b := 40) (by omega) (by omega))
    have hpI : (nI p).toInt = (p : Int) := nI_toInt (by omega)
    rw [u1, hci, hci1, t5, nI_1]
    by_cases c1 : nI p < top
    · rw [if_pos c1]
      rw [Int32.lt_iff_toInt_lt, hpI] at c1
      refine ih n k S T (p + 1) x (by omega) (by omega) hk hk0 ?_ hG s1 s2 s3 t1 t2 t3 t4 t5 t6 t7
      rcases hx with q | q
      · left; rw [q]; omega
      · right; omega
    · rw [if_neg c1]
      rw [Int32.lt_iff_toInt_lt, hpI] at c1
      by_cases c2 : T 19 (i + 1) ≤ nI p
      · rw [if_pos c2]
        rw [Int32.le_iff_toInt_le, hpI, t7] at c2
        refine ih n k S T (p + 1) x (by omega) (by omega) hk hk0 (Or.inr ?_) hG s1 s2 s3 t1 t2 t3 t4 t5 t6 t7
        omega
      · rw [if_neg c2]
        rw [Int32.le_iff_toInt_le, hpI, t7] at c2
        have hx2 : x.toInt = (p : Int) - top.toInt := by omega
        have hxe : x = nI p - top := Int32.toInt_inj.mp (by rw [gw_subI (by rw [hpI]; omega) (by rw [hpI]; omega), hpI, hx2])
        obtain ⟨k, rfl⟩ : ∃ n', k = n' + 1 := ⟨k - 1, by omega⟩
        have hyx : ¬ y10 ≤ x := by rw [Int32.le_iff_toInt_le]; omega
        have hrow : top + x = nI p := Int32.toInt_inj.mp (by rw [gw_addI (by omega) (by omega), hpI]; omega)
        have B1 := d_sdB (j := x) hl0 hl1 hh hh2 (by omega) (by omega)
        have B2 := d_sdB (j := x) hr0 hr1 hh hh2 (by omega) (by omega)
        have u2 : fl_Painter_drawRows_86 (nI i) a3 top (d_dv ((65536 : Int64) * (l1 - l0).toInt64) h.toInt64) (d_dv ((65536 : Int64) * (r1 - r0).toInt64) h.toInt64) y10 (k + 1) S x = fl_Painter_drawRows_86 (nI i) a3 top (d_dv ((65536 : Int64) * (l1 - l0).toInt64) h.toInt64) (d_dv ((65536 : Int64) * (r1 - r0).toInt64) h.toInt64) y10 k (c_fin S (2560 * w + 64 * p) (max (d_sd l0 l1 h x).toInt 0).toNat (min (d_sd r0 r1 h x).toInt 63 + 1).toNat (vp_nar .byte a3.toInt8.toInt32)) (x + (1 : Int32)) :=
          (if_neg hyx).trans (c_body hw (by omega) s1 hrow (by rw [hci, s2]; exact d_edge) (by rw [hci, s3]; exact d_edge) B1 B2 rfl rfl (fun U => fl_Painter_drawRows_86 (nI i) a3 top (d_dv ((65536 : Int64) * (l1 - l0).toInt64) h.toInt64) (d_dv ((65536 : Int64) * (r1 - r0).toInt64) h.toInt64) y10 k U (x + (1 : Int32))))
        have hT4 : T 0 4 = nI w := by rw [← eR_g hG.1 eL91]; exact s1
        have u3 := r_line (a3 := a3) hw (by omega : p < 40) hi hT4 t1 t2 t3 t4 t5 t6
        rw [u2, u3, ← hxe]
        have hG2 := eG_row (base := 2560 * w + 64 * p) (a := (max (d_sd l0 l1 h x).toInt 0).toNat) (b := (min (d_sd r0 r1 h x).toInt 63 + 1).toNat) (k := vp_nar .byte a3.toInt8.toInt32) hG
        have hF : dF S (c_fin S (2560 * w + 64 * p) (max (d_sd l0 l1 h x).toInt 0).toNat (min (d_sd r0 r1 h x).toInt 63 + 1).toNat (vp_nar .byte a3.toInt8.toInt32)) T (r_fin T 0 (2560 * w + 64 * p) (max (d_sd l0 l1 h x).toInt 0).toNat (min (d_sd r0 r1 h x).toInt 63 + 1).toNat 0 (vp_nar .byte a3.toInt8.toInt32)) := ⟨fun a q z1 z2 => c_fo z1 z2, fun a q z1 z2 => r_fo z1 z2⟩
        generalize c_fin S (2560 * w + 64 * p) (max (d_sd l0 l1 h x).toInt 0).toNat (min (d_sd r0 r1 h x).toInt 63 + 1).toNat (vp_nar .byte a3.toInt8.toInt32) = S1 at hG2 hF ⊢
        generalize r_fin T 0 (2560 * w + 64 * p) (max (d_sd l0 l1 h x).toInt 0).toNat (min (d_sd r0 r1 h x).toInt 63 + 1).toNat 0 (vp_nar .byte a3.toInt8.toInt32) = T1 at hG2 hF ⊢
        have hx1 : (x + (1 : Int32)).toInt = x.toInt + 1 := gw_add1 (by omega)
        have f9 := hF.1 9 1 (by omega) (by omega)
        have f12 := hF.1 12 i (by omega) (by omega)
        have f11 := hF.1 11 i (by omega) (by omega)
        have g1 := hF.2 18 i (by omega) (by omega)
        have g2 := hF.2 18 (i + 1) (by omega) (by omega)
        have g3 := hF.2 17 i (by omega) (by omega)
        have g4 := hF.2 17 (i + 1) (by omega) (by omega)
        have g5 := hF.2 19 i (by omega) (by omega)
        have g6 := hF.2 19 (i + 1) (by omega) (by omega)
        obtain ⟨T', r1', r2', r3'⟩ := ih n k S1 T1 (p + 1) (x + (1 : Int32)) (by omega) (by omega) (by omega) (by omega) (Or.inl (by rw [hx1]; omega)) hG2 (f9.trans s1) (f12.trans s2) (f11.trans s3) (g1.trans t1) (g2.trans t2) (g3.trans t3) (g4.trans t4) (g5.trans t5) (by rw [g6]; exact t6) (by rw [g6]; exact t7)
        exact ⟨T', r1', r2', dF_2 hF r3'⟩
