theorem eG_f {j : Nat} {S T S' T' : gw_S} (h : eG j S T) (f : ∀ a q, a ≠ 11 → a ≠ 12 → a ≠ 13 → S' a q = S a q) (g : ∀ a q, a ≠ 17 → a ≠ 18 → a ≠ 19 → ¬ (a = 0 ∧ q = 29) → T' a q = T a q) : eG j S' T' := by
  obtain ⟨h1, h2, h3, h4, h5, h6⟩ := h
  refine ⟨fun a b c d hl => ?_, ?_, ?_, ?_, ?_, fun k hk => ?_⟩
  · have hac : (a ≠ 11 ∧ a ≠ 12 ∧ a ≠ 13) ∧ c ≠ 17 ∧ c ≠ 18 ∧ c ≠ 19 ∧ ¬ (c = 0 ∧ d = 29) := by
      have hl' := hl
      unfold eL at hl'
      rcases hl' with q | q | q | q | q | q | q | q | q | q | q <;> omega
    rw [f a b hac.1.1 hac.1.2.1 hac.1.2.2, g c d hac.2.1 hac.2.2.1 hac.2.2.2.1 hac.2.2.2.2]
    exact h1 a b c d hl
  · rw [g 0 17 (by omega) (by omega) (by omega) (by omega)]; exact h2
  · rw [g 0 18 (by omega) (by omega) (by omega) (by omega), f 1 4 (by omega) (by omega) (by omega)]; exact h3
  · rw [g 0 20 (by omega) (by omega) (by omega) (by omega), f 1 5 (by omega) (by omega) (by omega)]; exact h4
  · rw [g 0 19 (by omega) (by omega) (by omega) (by omega)]; exact h5
  · rw [g 7 k (by omega) (by omega) (by omega) (by omega), f (k + 14) 4 (by omega) (by omega) (by omega)]; exact h6 k hk
def dP (S S' T T' : gw_S) : Prop := (∀ a q, a ≠ 10 → a ≠ 11 → a ≠ 12 → a ≠ 13 → ¬ (a = 6 ∧ q = 7) → S' a q = S a q) ∧ (∀ a q, a ≠ 4 → a ≠ 17 → a ≠ 18 → a ≠ 19 → ¬ (a = 0 ∧ q = 15) → ¬ (a = 0 ∧ q = 29) → T' a q = T a q)
theorem d_half {x : Int32} (h : cSb x) : (d_dv x.toInt64 (2 : Int64)).toInt32 = d_fd x (2 : Int32) := by
  have e := e_half (S := fun _ _ => 0) (T := fun _ _ => 0) h
  rw [u_div, u_fdI] at e
  exact e.symm
theorem d_scb {b z : Int32} (hb : vp_in b 256) (hz : cSh z) : cSb (d_sc b z) := by
  have e := cb_scaled (fun _ _ => 0) b z hb hz
  rw [c_sc] at e
  exact e
theorem d_pp {A N : Nat} {x y z : Int32} {S : gw_S} (hA : A < 1024) (hN : S 8 ((A + 3) % 1024) &&& (15 : Int32) = nI N) : f_Painter_placePairs S (nI A) x y z = fl_Painter_placePairs_69 z (x - d_fd (d_sc (S 8 ((A + 1) % 1024)) z) (2 : Int32)) (y - d_fd (d_sc (S 8 ((A + 2) % 1024)) z) (2 : Int32)) (nI N) (nI (A + 4)) (gw_fu ((nI N : Int32).toInt - ((0 : Int32) : Int32).toInt)) S (0 : Int32) := by
  have a2 : nI A + (2 : Int32) = nI (A + 2) := nI_add A 2
  have a3 : nI A + (3 : Int32) = nI (A + 3) := nI_add A 3
  have a4 : nI A + (4 : Int32) = nI (A + 4) := nI_add A 4
  unfold f_Painter_placePairs
  rw [nI_1, c_rd (by omega), gw_bm, c_sc, gw_bm, u_fdI, gw_bm, gw_nm, a2, c_rd (by omega), gw_bm, c_sc, gw_bm, u_fdI, gw_bm, gw_nm, a3, c_rd (by omega), gw_bm, gw_nm, hN, a4, gw_nm]
theorem d_mp {A N : Nat} {x y z c : Int32} {T : gw_S} (hb : ∀ k, vp_in (T 2 k) 256) (hz : cSh z) (t22 : T 0 22 = z) (t29 : T 0 29 = nI ((A + 1) % 1024)) (hN : T 2 ((A + 3) % 1024) &&& (15 : Int32) = nI N) : ∃ T3, f_Model_polygon T x y c = fl_Model_polygon_60 c (nI N) (x - d_fd (d_sc (T 2 ((A + 1) % 1024)) z) (2 : Int32)) (y - d_fd (d_sc (T 2 ((A + 2) % 1024)) z) (2 : Int32)) (gw_fu ((nI N : Int32).toInt - ((0 : Int32) : Int32).toInt)) T3 (0 : Int32) ∧ T3 0 29 = nI ((A + 4) % 1024) ∧ (∀ a q, ¬ (a = 0 ∧ q = 29) → T3 a q = T a q) := by
  refine ⟨gw_u (gw_u (gw_u T 0 29 (nI ((A + 1 + 1) % 1024))) 0 29 (nI ((A + 2 + 1) % 1024))) 0 29 (nI ((A + 3 + 1) % 1024)), ?_, by rw [gw_us], fun a q h => by rw [gw_un h, gw_un h, gw_un h]⟩
  unfold f_Model_polygon
  rw [r_rd t29, gw_bm, r_sc (hb _) hz (by rw [gw_un (by omega)]; exact t22), gw_bm, r_rd (Y := A + 2) (by rw [gw_us]), gw_bm, d_uo (by omega : ¬ 2 = 0), r_sc (hb _) hz (by rw [gw_un (by omega), gw_un (by omega)]; exact t22), gw_bm, r_rd (Y := A + 3) (by rw [gw_us]), gw_bm, gw_nm, d_uo (by omega : ¬ 2 = 0), d_uo (by omega : ¬ 2 = 0), hN, u_div, gw_bm, gw_nm, u_div, gw_bm, gw_nm, d_half (d_scb (hb _) hz), d_half (d_scb (hb _) hz)]
theorem d_polygon {j w A N : Nat} {x y z c : Int32} {S T : gw_S} (hw : w < 4) (hA : A < 1024) (hN15 : N ≤ 15) (hz : cSh z) (hx : cZb x) (hy : cZb y) (hO : cOK S) (hG : eG j S T) (s1 : S 9 1 = nI w) (t22 : T 0 22 = z) (t29 : T 0 29 = nI ((A + 1) % 1024)) (hN : S 8 ((A + 3) % 1024) &&& (15 : Int32) = nI N) : eG j (f_Painter_drawPolygon (f_Painter_placePairs S (nI A) x y z).2 (nI N) c).2 (f_Model_polygon T x y c).2 ∧ dP S (f_Painter_drawPolygon (f_Painter_placePairs S (nI A) x y z).2 (nI N) c).2 T (f_Model_polygon T x y c).2 := by
  have e8 : S 8 = T 2 := eR_f8 hG.1
  have hb : ∀ k, vp_in (T 2 k) 256 := fun k => by rw [← e8]; exact (hO 8 k).1 (Or.inr rfl)
  have hO2 := po_ok_Painter_placePairs S (nI A) x y z hO hx hy hz
  obtain ⟨T3, q1, q2, q3⟩ := d_mp (x := x) (y := y) (c := c) hb hz t22 t29 (by rw [← e8]; exact hN)
  have hNI : (nI N).toInt = (N : Int) := nI_toInt (by omega)
  have h0I : ((0 : Int32) : Int32).toInt = 0 := rfl
  have h1I : (((0 : Int32) : Int32) + (1 : Int32)).toInt = 1 := rfl
  have f1 := gw_fu_lt ((nI N : Int32).toInt - ((0 : Int32) : Int32).toInt)
  have f2 := gw_fu_lt ((nI N : Int32).toInt - (((0 : Int32) : Int32) + (1 : Int32)).toInt)
  have f3 := gw_fu_pos ((nI N : Int32).toInt - (((0 : Int32) : Int32) + (1 : Int32)).toInt)
  rw [d_pp hA hN] at hO2 ⊢
  have P := l_pp (a4 := z) (y5 := x - d_fd (d_sc (S 8 ((A + 1) % 1024)) z) (2 : Int32)) (y6 := y - d_fd (d_sc (S 8 ((A + 2) % 1024)) z) (2 : Int32)) hN15 (by omega : A + 4 < 2000) N (gw_fu ((nI N : Int32).toInt - ((0 : Int32) : Int32).toInt)) S 0 (by omega) (by omega)
  rw [show nI 0 = (0 : Int32) from rfl] at P
  generalize (fl_Painter_placePairs_69 z (x - d_fd (d_sc (S 8 ((A + 1) % 1024)) z) (2 : Int32)) (y - d_fd (d_sc (S 8 ((A + 2) % 1024)) z) (2 : Int32)) (nI N) (nI (A + 4)) (gw_fu ((nI N : Int32).toInt - ((0 : Int32) : Int32).toInt)) S (0 : Int32)) = S2 at hO2 P ⊢
  obtain ⟨T4, r1, r2, r3, r4⟩ := l_r60 (c := c) (y7 := x - d_fd (d_sc (T 2 ((A + 1) % 1024)) z) (2 : Int32)) (y8 := y - d_fd (d_sc (T 2 ((A + 2) % 1024)) z) (2 : Int32)) hN15 hz N (gw_fu ((nI N : Int32).toInt - ((0 : Int32) : Int32).toInt)) T3 0 (by omega) (by omega) q2 (by rw [q3 0 22 (by omega)]; exact t22) (fun k => by rw [q3 2 k (by omega)]; exact hb k)
  rw [show nI 0 = (0 : Int32) from rfl] at r1
  obtain ⟨T5, v1, v3, v4⟩ := l_r112 (c := c) (y7 := x - d_fd (d_sc (T 2 ((A + 1) % 1024)) z) (2 : Int32)) hN15 hz N (gw_fu ((nI N : Int32).toInt - ((0 : Int32) : Int32).toInt)) T4 0 (by omega) (by omega) r2 (by rw [r3 0 22 (by omega) (by omega), q3 0 22 (by omega)]; exact t22) (fun k => by rw [r3 2 k (by omega) (by omega), q3 2 k (by omega)]; exact hb k)
  rw [show nI 0 = (0 : Int32) from rfl] at v1
  rw [q1, r1, v1]
  have gS : ∀ a q, a ≠ 11 → a ≠ 12 → a ≠ 13 → S2.2 a q = S a q := fun a q h1 h2 h3 => P.1 a q (by omega)
  have gT : ∀ a q, a ≠ 17 → a ≠ 18 → a ≠ 19 → ¬ (a = 0 ∧ q = 29) → T5 a q = T a q := fun a q h1 h2 h3 h4 => by rw [v3 a q h4 (by omega), r3 a q h4 (by omega), q3 a q h4]
  have hG2 : eG j S2.2 T5 := eG_f hG gS gT
  have hA2 : ∀ q, q < N → S2.2 11 q = T5 17 q ∧ S2.2 12 q = T5 18 q ∧ S2.2 13 q = T5 19 q := fun q hq => by
    have p := P.2 q (by omega) hq
    have r := r4 q (by omega) hq
    have v := v4 q (by omega) hq
    rw [q3 2 _ (by omega), q3 2 _ (by omega)] at r
    rw [r3 2 _ (by omega) (by omega), q3 2 _ (by omega)] at v
    rw [p.1, p.2.1, p.2.2, v3 17 q (by omega) (by omega), v3 19 q (by omega) (by omega), r.1, r.2, v, e8]
    exact ⟨rfl, rfl, rfl⟩
  have D := d_pg (c := c) hw hN15 N (gw_fu ((nI N : Int32).toInt - (((0 : Int32) : Int32) + (1 : Int32)).toInt)) (gw_fu ((nI N : Int32).toInt - (((0 : Int32) : Int32) + (1 : Int32)).toInt)) S2.2 T5 0 (by omega) (by omega) f3 (by omega) f3 (by omega) (fun a q h => (hO2 a q).2.2.2.2 h) hG2 (by rw [gS 9 1 (by omega) (by omega) (by omega)]; exact s1) hA2
  rw [show nI 0 = (0 : Int32) from rfl] at D
  refine ⟨D.1, fun a q h1 h2 h3 h4 h5 => ?_, fun a q h1 h2 h3 h4 h5 h6 => ?_⟩
  · exact (D.2.1 a q h1 h5).trans (gS a q h2 h3 h4)
  · exact (D.2.2 a q h1 h5).trans (gT a q h2 h3 h4 h6)
