theorem eG_23 {j : Nat} {S T : gw_S} {v : Int32} (h : eG j S T) : eG j S (gw_u T 0 23 v) := by
  obtain ⟨h1, h2, h3, h4, h5, h6⟩ := h
  refine ⟨eR_0 h1 (by omega), ?_, ?_, ?_, ?_, fun k hk => ?_⟩
  · rw [gw_un (by omega)]; exact h2
  · rw [gw_un (by omega)]; exact h3
  · rw [gw_un (by omega)]; exact h4
  · rw [gw_un (by omega)]; exact h5
  · rw [gw_un (by omega)]; exact h6 k hk
theorem eG_cnt {j : Nat} {S T : gw_S} {v v' p : Int32} (h : eG j S T) : eG j (gw_u (gw_u S 6 5 v) 6 6 (S 6 6 + (1 : Int32))) (gw_u (gw_u (gw_u T 0 21 v') 0 16 (T 0 16 + (1 : Int32))) 0 29 p) := by
  obtain ⟨h1, h2, h3, h4, h5, h6⟩ := h
  refine ⟨eR_0 ?_ (by omega), ?_, ?_, ?_, ?_, fun k hk => ?_⟩
  · rw [eR_g h1 eL66]
    exact eR_m (eR_y (eR_0 h1 (by omega)) (by omega)) eL66
  · rw [gw_un (by omega), gw_un (by omega), gw_un (by omega)]; exact h2
  · rw [gw_un (by omega), gw_un (by omega), gw_un (by omega), gw_un (by omega), gw_un (by omega)]; exact h3
  · rw [gw_un (by omega), gw_un (by omega), gw_un (by omega), gw_un (by omega), gw_un (by omega)]; exact h4
  · rw [gw_un (by omega), gw_un (by omega), gw_un (by omega)]; exact h5
  · rw [gw_un (by omega), gw_un (by omega), gw_un (by omega), gw_un (by omega), gw_un (by omega)]; exact h6 k hk
noncomputable def d_c0 (S : gw_S) : gw_S := gw_u (gw_u S 6 5 (S 6 5 + (1 : Int32))) 6 6 (S 6 6 + (1 : Int32))
theorem d_c0o {S : gw_S} {a q : Nat} (h : a ≠ 6) : d_c0 S a q = S a q := by
  unfold d_c0
  rw [gw_un (by omega), gw_un (by omega)]
theorem d_c0k {S : gw_S} (h : cOK S) : cOK (d_c0 S) := cOK_o rfl (cOK_o rfl h (by omega)) (by omega)
theorem d_ds {gr : gw_S → Int32 → Int32 → Int32 → Int32 → Int32 → Int32 → Unit × gw_S} {S : gw_S} {A : Nat} {x y z c dep : Int32} (hA : A < 1024) (h : S 6 5 < (200 : Int32)) : f_Painter_drawShape gr S (nI A) x y z c dep = (if S 8 A < (192 : Int32) then (if S 8 A = (2 : Int32) then (if (4 : Int32) < dep then ((), d_c0 S) else ((), (gr (d_c0 S) (nI A) x y z c dep).2)) else ((), d_c0 S)) else (if c = (-1 : Int32) then ((), (f_Painter_drawPolygon (f_Painter_placePairs (d_c0 S) (nI A) x y z).2 ((f_Painter_placePairs (d_c0 S) (nI A) x y z).2 8 ((A + 3) % 1024) &&& (15 : Int32)) (S 8 A &&& (15 : Int32))).2) else ((), (f_Painter_drawPolygon (f_Painter_placePairs (d_c0 S) (nI A) x y z).2 ((f_Painter_placePairs (d_c0 S) (nI A) x y z).2 8 ((A + 3) % 1024) &&& (15 : Int32)) c).2))) := by
  have a3 : nI A + (3 : Int32) = nI (A + 3) := nI_add A 3
  have e0 : gw_u (gw_u S 6 5 (S 6 5 + (1 : Int32))) 6 6 ((gw_u S 6 5 (S 6 5 + (1 : Int32))) 6 6 + (1 : Int32)) = d_c0 S := by
    unfold d_c0
    rw [gw_un (S := S) (a := 6) (b := 6) (by omega)]
  unfold f_Painter_drawShape
  rw [if_pos h, gw_nm, gw_nm, e0, c_rd (by omega), gw_bm, Nat.mod_eq_of_lt hA, d_c0o (by omega), gw_bs rfl, gw_bs rfl, a3, c_rd (by omega), gw_bm, gw_bs rfl, gw_bs rfl]
theorem d_pb {S : gw_S} {A N : Nat} {x y z : Int32} (hA : A < 1024) (hN15 : N ≤ 15) (hN : S 8 ((A + 3) % 1024) &&& (15 : Int32) = nI N) : (f_Painter_placePairs S (nI A) x y z).2 8 = S 8 := by
  have f1 := gw_fu_lt ((nI N : Int32).toInt - ((0 : Int32) : Int32).toInt)
  have hNI : (nI N).toInt = (N : Int) := nI_toInt (by omega)
  have h0I : ((0 : Int32) : Int32).toInt = 0 := rfl
  rw [d_pp hA hN]
  exact funext fun q => (l_pp hN15 (by omega : A + 4 < 2000) N _ S 0 (by omega) (by omega)).1 8 q (by omega)
theorem d_nib {b : Int32} (h : vp_in b 256) : ∃ N, N ≤ 15 ∧ b &&& (15 : Int32) = nI N := by
  obtain ⟨n, hn, rfl⟩ := vp_in_of h (by decide)
  exact ⟨n % 16, by omega, pk_andN (by omega) (m := 15) 4 (by decide)⟩
theorem d_dg {sh : gw_S → Int32 → Int32 → Int32 → Int32 → Int32 → Int32 → Unit × gw_S} {S : gw_S} {A N : Nat} {x y z c dep : Int32} (hA : A < 1024) (hN : S 8 ((A + 3) % 1024) &&& (15 : Int32) = nI N) : f_Painter_drawGroup sh S (nI A) x y z c dep = fl_Painter_drawGroup_61 sh z c dep (x - d_sc (S 8 ((A + 1) % 1024)) z) (y - d_sc (S 8 ((A + 2) % 1024)) z) (nI N) (gw_fu ((nI N : Int32).toInt - ((0 : Int32) : Int32).toInt)) S (nI (A + 4)) (0 : Int32) := by
  have a2 : nI A + (2 : Int32) = nI (A + 2) := nI_add A 2
  have a3 : nI A + (3 : Int32) = nI (A + 3) := nI_add A 3
  have a4 : nI A + (4 : Int32) = nI (A + 4) := nI_add A 4
  unfold f_Painter_drawGroup
  rw [nI_1, c_rd (by omega), gw_bm, c_sc, gw_bm, gw_nm, a2, c_rd (by omega), gw_bm, c_sc, gw_bm, gw_nm, a3, c_rd (by omega), gw_bm, gw_nm, hN, a4, gw_nm]
theorem d_begin {T : gw_S} {s A : Nat} {B : Nat → Int32} (hs : s < 90000) (hA : A < 1024) (hB : T 2 = B) (h12 : T 12 s = nI A) : ∃ T1, T1 0 29 = nI ((A + 1) % 1024) ∧ (∀ a q, ¬ (a = 0 ∧ q = 29) → T1 a q = gw_u (gw_u (gw_u T 0 21 (T 0 21 + (1 : Int32))) 0 16 (T 0 16 + (1 : Int32))) 0 29 (nI A) a q) ∧ f_Model_begin T (nI s) = (if B A < (192 : Int32) then (if B A = (2 : Int32) then (if (5 : Int32) ≤ T 16 s then ((), T1) else ((), (f_Model_group T1 (T 13 s) (T 14 s) (T 15 s) (T 16 s)).2)) else ((), T1)) else (if T 15 s = (-1 : Int32) then ((), (f_Model_polygon T1 (T 13 s) (T 14 s) (B A &&& (15 : Int32))).2) else ((), (f_Model_polygon T1 (T 13 s) (T 14 s) (T 15 s)).2))) := by
  have hc : (nI s).toNatClampNeg = s := nI_clamp (by omega)
  obtain ⟨T1, w1, p1, b1, g1⟩ := r_rdE (T := gw_u (gw_u (gw_u T 0 21 (T 0 21 + (1 : Int32))) 0 16 (T 0 16 + (1 : Int32))) 0 29 (nI A)) (Y := A) (B := B) (by rw [gw_us, Nat.mod_eq_of_lt hA]) (by rw [d_uo (by omega), d_uo (by omega), d_uo (by omega)]; exact hB)
  have e : ∀ a, a ≠ 0 → T1 a s = T a s := fun a h => by rw [g1 a s (by omega), gw_un (by omega), gw_un (by omega), gw_un (by omega)]
  refine ⟨T1, p1, g1, ?_⟩
  unfold f_Model_begin
  rw [gw_nm, gw_nm, gw_un (i := 0) (k := 21) (a := 0) (b := 16) (by omega), gw_nm, hc, gw_un (a := 12) (by omega), gw_un (a := 12) (by omega), h12, w1, gw_bm, Nat.mod_eq_of_lt hA, e 13 (by omega), e 14 (by omega), e 15 (by omega), e 16 (by omega), gw_bs rfl, gw_bs rfl, gw_bs rfl]
