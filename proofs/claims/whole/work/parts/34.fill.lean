theorem d_skip {i : Nat} {K : gw_S → Unit × gw_S} {a3 y6 : Int32} (hi : i < 16) : ∀ (m n : Nat) (T : gw_S) (p : Nat), p + m = 40 → m < n → (T 19 (i + 1)).toInt ≤ (T 19 i).toInt → fl_Model_polygon_158 K a3 y6 (nI i) n T (nI p) = K T := by
  have hci : (nI i).toNatClampNeg = i := nI_clamp (by omega)
  have hci1 : (nI i + (1 : Int32)).toNatClampNeg = i + 1 := by rw [nI_1, nI_clamp (by omega)]
  intro m
  induction m with
  | zero =>
    intro n T p hp hn hT
    obtain ⟨n, rfl⟩ : ∃ n', n = n' + 1 := ⟨n - 1, by omega⟩
    exact if_pos (show (40 : Int32) ≤ nI p from nI_le (a := 40) (by omega) (by omega))
  | succ m ih =>
    intro n T p hp hn hT
    obtain ⟨n, rfl⟩ : ∃ n', n = n' + 1 := ⟨n - 1, by omega⟩
    have u1 : fl_Model_polygon_158 K a3 y6 (nI i) (n + 1) T (nI p) = (if nI p < T 19 (nI i).toNatClampNeg then fl_Model_polygon_158 K a3 y6 (nI i) n T (nI p + (1 : Int32)) else (if T 19 (nI i + (1 : Int32)).toNatClampNeg ≤ nI p then fl_Model_polygon_158 K a3 y6 (nI i) n T (nI p + (1 : Int32)) else fl_Model_polygon_158 K a3 y6 (nI i) n (f_Model_line T (nI i) (nI p) a3).2 (nI p + (1 : Int32)))) := if_neg (show ¬ (40 : Int32) ≤ nI p from nI_ge (b := 40) (by omega) (by omega))
    have hpI : (nI p).toInt = (p : Int) := nI_toInt (by omega)
    rw [u1, hci, hci1, nI_1, ih n T (p + 1) (by omega) (by omega) hT]
    by_cases c1 : nI p < T 19 i
    · rw [if_pos c1]
    · rw [if_neg c1]
      rw [Int32.lt_iff_toInt_lt] at c1
      rw [if_pos (by rw [Int32.le_iff_toInt_le]; omega)]
theorem gw_negI {t : Int32} (h : cYb t) : (-t).toInt = -t.toInt := by
  unfold cYb at h
  rw [Int32.toInt_neg]
  exact Int.bmod_eq_of_le (by omega) (by omega)
def dY (S : gw_S) : Prop := ∀ a q, a = 11 ∨ a = 12 ∨ a = 13 → cYb (S a q)
theorem dY_F {S S' T T' : gw_S} (h : dY S) (f : dF S S' T T') : dY S' := fun a q z => by rw [f.1 a q (by omega) (by omega)]; exact h a q z
theorem d_dr {j w i : Nat} {K : gw_S → Unit × gw_S} {a3 y6 h : Int32} {S T : gw_S} (hw : w < 4) (hi : i < 15) (hY : dY S) (hG : eG j S T) (s1 : S 9 1 = nI w) (hA : ∀ q, q = i ∨ q = i + 1 → S 11 q = T 17 q ∧ S 12 q = T 18 q ∧ S 13 q = T 19 q) (hh : h = S 13 (i + 1) - S 13 i) (hp : ¬ h ≤ 0) : ∃ T', fl_Model_polygon_158 K a3 y6 (nI i) (gw_fu (((40 : Int32) : Int32).toInt - ((0 : Int32) : Int32).toInt)) T (0 : Int32) = K T' ∧ eG j (f_Painter_drawRows S (nI i) h a3).2 T' ∧ dF S (f_Painter_drawRows S (nI i) h a3).2 T T' := by
  have hci : (nI i).toNatClampNeg = i := nI_clamp (by omega)
  have hci1 : (nI i + (1 : Int32)).toNatClampNeg = i + 1 := by rw [nI_1, nI_clamp (by omega)]
  have y0 := hY 13 i (by omega)
  have y1 := hY 13 (i + 1) (by omega)
  have hpos := gw_posI hp
  have y0' := y0
  unfold cYb at y0' y1
  have hhI : h.toInt = (S 13 (i + 1)).toInt - (S 13 i).toInt := by rw [hh]; exact gw_subI (by omega) (by omega)
  have hh64 : 0 < h.toInt64.toInt := by rw [e_i64]; exact hpos
  have m1 := u_max S (0 : Int32) (-(S 13 i))
  have m2 := u_min S h ((40 : Int32) - S 13 i)
  have h40 : ((40 : Int32) - S 13 i).toInt = 40 - (S 13 i).toInt := by
    have h3 : (40 : Int32).toInt = 40 := rfl
    rw [gw_subI (by omega) (by omega), h3]
  rw [gw_negI y0, Int32.toInt_zero] at m1
  rw [h40] at m2
  have A1 := hA i (Or.inl rfl)
  have A2 := hA (i + 1) (Or.inr rfl)
  unfold f_Painter_drawRows gw_n
  dsimp only
  rw [hci, hci1, u_fdJ _ _ _ hh64, gw_bm, u_fdJ _ _ _ hh64, gw_bm]
  have D := fun (k : Nat) (x y10 : Int32) (q1 : y10.toInt - x.toInt < (k : Int)) (q2 : 0 < k) (q3 : x.toInt = max 0 ((0 : Int) - (S 13 i).toInt)) (hy : y10.toInt = min h.toInt (40 - (S 13 i).toInt)) => d_rows (K := K) (a3 := a3) (y6 := y6) (y10 := y10) hw (by omega : i < 16) y0 (hY 12 i (by omega)) (hY 12 (i + 1) (by omega)) (hY 11 i (by omega)) (hY 11 (i + 1) (by omega)) hpos (by omega) hy 40 (gw_fu (((40 : Int32) : Int32).toInt - ((0 : Int32) : Int32).toInt)) k S T 0 x (by omega) (by have := gw_fu_lt (((40 : Int32) : Int32).toInt - ((0 : Int32) : Int32).toInt); have e40 : ((40 : Int32) : Int32).toInt - ((0 : Int32) : Int32).toInt = 40 := rfl; omega) q1 q2 (Or.inl q3) hG s1 rfl rfl A1.2.1.symm A2.2.1.symm A1.1.symm A2.1.symm A1.2.2.symm (by rw [← A2.2.2, hh]) (by rw [← A2.2.2]; omega)
  generalize f_Math_max S (0 : Int32) (-(S 13 i)) = mx at m1 ⊢
  obtain ⟨fr, S1⟩ := mx
  obtain ⟨m1, e1⟩ := m1
  dsimp only at m1 e1
  rw [e1, gw_bm]
  generalize f_Math_min S h ((40 : Int32) - S 13 i) = mn at m2 ⊢
  obtain ⟨to, S2⟩ := mn
  obtain ⟨m2, e2⟩ := m2
  dsimp only at m2 e2
  rw [e2, gw_bm]
  exact D _ fr to (gw_fu_lt _) (gw_fu_pos _) (by rw [m1]; omega) m2
theorem d_pg {j w N : Nat} {c : Int32} (hw : w < 4) (hN : N ≤ 15) : ∀ (m n k : Nat) (S T : gw_S) (i : Nat), i ≤ 15 → N ≤ i + 1 + m → 0 < n → (N : Int) - ((i : Int) + 1) < (n : Int) → 0 < k → (N : Int) - ((i : Int) + 1) < (k : Int) → dY S → eG j S T → S 9 1 = nI w → (∀ q, q < N → S 11 q = T 17 q ∧ S 12 q = T 18 q ∧ S 13 q = T 19 q) → eG j (fl_Painter_drawPolygon_2 (nI N) c n S (nI i)).2 (fl_Model_polygon_146 c (nI N) k T (nI i)).2 ∧ dF S (fl_Painter_drawPolygon_2 (nI N) c n S (nI i)).2 T (fl_Model_polygon_146 c (nI N) k T (nI i)).2 := by
  intro m
  induction m with
  | zero =>
    intro n k S T i hi hm hn0 hn hk0 hk hY hG s1 hA
    obtain ⟨n, rfl⟩ : ∃ n', n = n' + 1 := ⟨n - 1, by omega⟩
    obtain ⟨k, rfl⟩ : ∃ n', k = n' + 1 := ⟨k - 1, by omega⟩
    have hle : nI N ≤ nI i + (1 : Int32) := by rw [nI_1]; exact nI_le (by omega) (by omega)
    have u1 : fl_Painter_drawPolygon_2 (nI N) c (n + 1) S (nI i) = ((), S) := if_pos hle
    have u2 : fl_Model_polygon_146 c (nI N) (k + 1) T (nI i) = ((), T) := if_pos hle
    rw [u1, u2]
    exact ⟨hG, dF_0⟩
  | succ m ih =>
    intro n k S T i hi hm hn0 hn hk0 hk hY hG s1 hA
    obtain ⟨n, rfl⟩ : ∃ n', n = n' + 1 := ⟨n - 1, by omega⟩
    obtain ⟨k, rfl⟩ : ∃ n', k = n' + 1 := ⟨k - 1, by omega⟩
    by_cases hNi : N ≤ i + 1
    · have hle : nI N ≤ nI i + (1 : Int32) := by rw [nI_1]; exact nI_le (by omega) (by omega)
      have u1 : fl_Painter_drawPolygon_2 (nI N) c (n + 1) S (nI i) = ((), S) := if_pos hle
      have u2 : fl_Model_polygon_146 c (nI N) (k + 1) T (nI i) = ((), T) := if_pos hle
      rw [u1, u2]
      exact ⟨hG, dF_0⟩
    · have hle : ¬ nI N ≤ nI i + (1 : Int32) := by rw [nI_1]; exact nI_ge (by omega) (by omega)
      have hci : (nI i).toNatClampNeg = i := nI_clamp (by omega)
      have hci1 : (nI i + (1 : Int32)).toNatClampNeg = i + 1 := by rw [nI_1, nI_clamp (by omega)]
      have u1 : fl_Painter_drawPolygon_2 (nI N) c (n + 1) S (nI i) = (if S 13 (nI i + (1 : Int32)).toNatClampNeg - S 13 (nI i).toNatClampNeg ≤ 0 then fl_Painter_drawPolygon_2 (nI N) c n S (nI i + (1 : Int32)) else fl_Painter_drawPolygon_2 (nI N) c n (f_Painter_drawRows S (nI i) (S 13 (nI i + (1 : Int32)).toNatClampNeg - S 13 (nI i).toNatClampNeg) c).2 (nI i + (1 : Int32))) := if_neg hle
      have u2 : fl_Model_polygon_146 c (nI N) (k + 1) T (nI i) = fl_Model_polygon_158 (fun Sc => fl_Model_polygon_146 c (nI N) k Sc (nI i + (1 : Int32))) c (nI N) (nI i) (gw_fu (((40 : Int32) : Int32).toInt - ((0 : Int32) : Int32).toInt)) T (0 : Int32) := if_neg hle
      rw [u1, u2, hci, hci1, nI_1]
      have A1 := hA i (by omega)
      have A2 := hA (i + 1) (by omega)
      by_cases c0 : S 13 (i + 1) - S 13 i ≤ 0
      · have y0 := hY 13 i (by omega)
        have y1 := hY 13 (i + 1) (by omega)
        unfold cYb at y0 y1
        rw [if_pos c0]
        rw [Int32.le_iff_toInt_le, gw_subI (by omega) (by omega), Int32.toInt_zero] at c0
        have e := d_skip (K := fun Sc => fl_Model_polygon_146 c (nI N) k Sc (nI (i + 1))) (a3 := c) (y6 := nI N) (by omega : i < 16) 40 (gw_fu (((40 : Int32) : Int32).toInt - ((0 : Int32) : Int32).toInt)) T 0 (by omega) (by have := gw_fu_lt (((40 : Int32) : Int32).toInt - ((0 : Int32) : Int32).toInt); have e40 : ((40 : Int32) : Int32).toInt - ((0 : Int32) : Int32).toInt = 40 := rfl; omega) (by rw [← A1.2.2, ← A2.2.2]; omega)
        rw [show (0 : Int32) = nI 0 from rfl] at *
        rw [e]
        exact ih n k S T (i + 1) (by omega) (by omega) (by omega) (by omega) (by omega) (by omega) hY hG s1 hA
      · rw [if_neg c0]
        obtain ⟨T', r1, r2, r3⟩ := d_dr (K := fun Sc => fl_Model_polygon_146 c (nI N) k Sc (nI (i + 1))) (a3 := c) (y6 := nI N) hw (by omega : i < 15) hY hG s1 (fun q hq => hA q (by omega)) rfl c0
        rw [r1]
        have h2 := ih n k _ T' (i + 1) (by omega) (by omega) (by omega) (by omega) (by omega) (by omega) (dY_F hY r3) r2 (by rw [r3.1 9 1 (by omega) (by omega)]; exact s1) (fun q hq => by rw [r3.1 11 q (by omega) (by omega), r3.1 12 q (by omega) (by omega), r3.1 13 q (by omega) (by omega), r3.2 17 q (by omega) (by omega), r3.2 18 q (by omega) (by omega), r3.2 19 q (by omega) (by omega)]; exact hA q hq)
        exact ⟨h2.1, dF_2 r3 h2.2⟩
