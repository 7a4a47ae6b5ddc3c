theorem eG_g2 {j s : Nat} {S T T' : gw_S} (h : eG j S T) (g : ∀ a q, ¬ (a = 0 ∧ q = 29) → ¬ (a = 0 ∧ q = 23) → ¬ (12 ≤ a ∧ a ≤ 16 ∧ s ≤ q) → T' a q = T a q) : eG j S T' := by
  obtain ⟨h1, h2, h3, h4, h5, h6⟩ := h
  refine ⟨fun a b c d hl => ?_, ?_, ?_, ?_, ?_, fun k hk => ?_⟩
  · have hac : ¬ (c = 0 ∧ d = 29) ∧ ¬ (c = 0 ∧ d = 23) ∧ ¬ (12 ≤ c ∧ c ≤ 16 ∧ s ≤ d) := by
      have hl' := hl
      unfold eL at hl'
      rcases hl' with q | q | q | q | q | q | q | q | q | q | q <;> omega
    rw [g c d hac.1 hac.2.1 hac.2.2]
    exact h1 a b c d hl
  · rw [g 0 17 (by omega) (by omega) (by omega)]; exact h2
  · rw [g 0 18 (by omega) (by omega) (by omega)]; exact h3
  · rw [g 0 20 (by omega) (by omega) (by omega)]; exact h4
  · rw [g 0 19 (by omega) (by omega) (by omega)]; exact h5
  · rw [g 7 k (by omega) (by omega) (by omega)]; exact h6 k hk
theorem d_k {dep : Int32} (h0 : 0 ≤ dep.toInt) (h5 : dep.toInt ≤ 5) : dep.toInt + ((5 - dep.toInt.toNat : Nat) : Int) = 5 := by omega
theorem d_sK {k : Nat} : ∃ gr, f_Painter_drawShapeK k = f_Painter_drawShape gr ∧ ∀ k', k = k' + 1 → gr = f_Painter_drawGroup (f_Painter_drawShapeK k') := by
  cases k with
  | zero => exact ⟨_, rfl, fun k' h => absurd h (by omega)⟩
  | succ k => exact ⟨_, rfl, fun k' h => by rw [show k = k' by omega]⟩
theorem d_loop {j : Nat} {z : Int32} {B : Nat → Int32} (hz : cSh z) (hb : ∀ k, vp_in (B k) 256) : ∀ (m n : Nat) (S T : gw_S) (s d : Nat) (F : gw_S → gw_S), d + m = 200 → m < n → s ≤ 1 + 15 * d → eG j S T → cOK S → T 2 = B → T 0 22 = z → T 0 23 = nI s → S 6 5 = nI d → T 0 21 = nI d → (∀ q, q < s → vp_in (T 12 q) 1024 ∧ (0 ≤ (T 16 q).toInt ∧ (T 16 q).toInt ≤ 5) ∧ cXb (T 16 q) (T 13 q) ∧ cXb (T 16 q) (T 14 q)) → dC B z T s F → eG j (F S) (fl_Model_draw_77 n T).2 := by
  intro m
  induction m with
  | zero =>
    intro n S T s d F hd hn hs hG hO hB t22 t23 s65 t21 hE hC
    obtain ⟨n, rfl⟩ : ∃ n', n = n' + 1 := ⟨n - 1, by omega⟩
    have u : fl_Model_draw_77 (n + 1) T = ((), T) := by
      show (if T 0 23 ≤ 0 then ((), T) else (if (200 : Int32) ≤ T 0 21 then ((), T) else _)) = _
      rw [if_pos (show (200 : Int32) ≤ T 0 21 by rw [t21, show d = 200 by omega]; decide)]
      split <;> rfl
    have e8 : S 8 = B := (eR_f8 hG.1).trans hB
    rw [u, dC_full s F S hC e8 (by rw [s65, show d = 200 by omega]; decide)]
    exact hG
  | succ m ih =>
    intro n S T s d F hd hn hs hG hO hB t22 t23 s65 t21 hE hC
    obtain ⟨n, rfl⟩ : ∃ n', n = n' + 1 := ⟨n - 1, by omega⟩
    have e8 : S 8 = B := (eR_f8 hG.1).trans hB
    cases s with
    | zero =>
      have u : fl_Model_draw_77 (n + 1) T = ((), T) := if_pos (show T 0 23 ≤ 0 by rw [t23]; decide)
      rw [u, show F S = S from hC S e8]
      exact hG
    | succ s =>
      obtain ⟨G, hC1, hF⟩ := hC
      obtain ⟨q12, ⟨q16a, q16b⟩, q13, q14⟩ := hE s (by omega)
      obtain ⟨A, hA, eA⟩ := vp_in_of q12 (by decide)
      have hK5 := d_k q16a q16b
      have hd2 : S 6 5 < (200 : Int32) := by rw [s65]; exact nI_lt (b := 200) (by omega) (by omega)
      have e23 : T 0 23 - (1 : Int32) = nI s := by
        apply Int32.toInt_inj.mp
        have h1 : (1 : Int32).toInt = 1 := rfl
        have h2 : (nI (s + 1)).toInt = ((s + 1 : Nat) : Int) := nI_toInt (by omega)
        rw [t23, gw_subI (by omega) (by omega), h2, h1, nI_toInt (by omega)]
        omega
      have u : fl_Model_draw_77 (n + 1) T = fl_Model_draw_77 n (f_Model_begin (gw_u T 0 23 (nI s)) (nI s)).2 := by
        have h1 : ¬ T 0 23 ≤ 0 := by rw [t23]; exact nI_ge (a := 0) (by omega) (by omega)
        have h2 : ¬ (200 : Int32) ≤ T 0 21 := by rw [t21]; exact nI_ge (b := 200) (by omega) (by omega)
        refine (if_neg h1).trans ((if_neg h2).trans ?_)
        rw [gw_nm, e23, gw_us, gw_bs rfl]
        rfl
      obtain ⟨T1, p1, g1, u1⟩ := d_begin (T := gw_u T 0 23 (nI s)) (s := s) (A := A) (B := B) (by omega) hA (by rw [d_uo (by omega)]; exact hB) (by rw [gw_un (by omega)]; exact eA)
      rw [gw_un (a := 13) (by omega), gw_un (a := 14) (by omega), gw_un (a := 15) (by omega), gw_un (a := 16) (by omega)] at u1
      have hG0 : eG j (d_c0 S) T1 := eG_f (eG_cnt (v := S 6 5 + (1 : Int32)) (v' := gw_u T 0 23 (nI s) 0 21 + (1 : Int32)) (p := nI A) (eG_23 (v := nI s) hG)) (fun _ _ _ _ _ => rfl) (fun a q _ _ _ h => g1 a q h)
      have hO0 : cOK (d_c0 S) := d_c0k hO
      have f1 : ∀ a q, a ≠ 0 → T1 a q = T a q := fun a q h => by rw [g1 a q (by omega), gw_un (by omega), gw_un (by omega), gw_un (by omega), gw_un (by omega)]
      have b1 : T1 2 = B := by rw [← hB]; exact funext fun q => f1 2 q (by omega)
      have z1 : T1 0 22 = z := by rw [g1 0 22 (by omega), gw_un (by omega), gw_un (by omega), gw_un (by omega), gw_un (by omega)]; exact t22
      have k1 : T1 0 23 = nI s := by rw [g1 0 23 (by omega), gw_un (by omega), gw_un (by omega), gw_un (by omega), gw_us]
      have d1 : T1 0 21 = nI (d + 1) := by rw [g1 0 21 (by omega), gw_un (by omega), gw_un (by omega), gw_us, gw_un (by omega), t21, nI_1]
      have c1 : d_c0 S 6 5 = nI (d + 1) := by unfold d_c0; rw [gw_un (by omega), gw_us, s65, nI_1]
      have c8 : d_c0 S 8 = B := by rw [← e8]; exact funext fun q => d_c0o (by omega)
      have fin : ∀ S' T', eG j S' T' → cOK S' → (∀ a q, 12 ≤ a → a ≤ 16 → T' a q = T a q) → T' 2 = B → T' 0 22 = z → T' 0 23 = nI s → S' 6 5 = nI (d + 1) → T' 0 21 = nI (d + 1) → eG j (G S') (fl_Model_draw_77 n T').2 := fun S' T' x1 x2 x3 x4 x5 x6 x7 x8 =>
        ih n S' T' s (d + 1) G (by omega) (by omega) (by omega) x1 x2 x4 x5 x6 x7 x8 (fun q hq => by rw [x3 12 q (by omega) (by omega), x3 13 q (by omega) (by omega), x3 14 q (by omega) (by omega), x3 16 q (by omega) (by omega)]; exact hE q (by omega)) (dC_c s G (fun a q y1 y2 _ => x3 a q y1 y2) hC1)
      obtain ⟨gr, ek, eg⟩ := d_sK (k := 5 - (T 16 s).toInt.toNat)
      rw [hF S e8, u, u1, ek, eA, d_ds hA hd2, e8]
      obtain ⟨N, hN15, hN⟩ := d_nib (hb ((A + 3) % 1024))
      by_cases hp : B A < (192 : Int32)
      · rw [if_pos hp, if_pos hp]
        by_cases h2 : B A = (2 : Int32)
        · rw [if_pos h2, if_pos h2]
          by_cases h4 : (4 : Int32) < T 16 s
          · have h5 : (5 : Int32) ≤ T 16 s := by
              rw [Int32.lt_iff_toInt_lt, show (4 : Int32).toInt = 4 from rfl] at h4
              rw [Int32.le_iff_toInt_le, show (5 : Int32).toInt = 5 from rfl]
              omega
            rw [if_pos h4, if_pos h5]
            exact fin _ _ hG0 hO0 (fun a q y1 y2 => f1 a q (by omega)) b1 z1 k1 c1 d1
          · have h5 : ¬ (5 : Int32) ≤ T 16 s := by
              rw [Int32.lt_iff_toInt_lt, show (4 : Int32).toInt = 4 from rfl] at h4
              rw [Int32.le_iff_toInt_le, show (5 : Int32).toInt = 5 from rfl]
              omega
            have h4' := gw_le4 h4
            have hk1 := gw_k1 hK5 h4'
            have hdep : (T 16 s + (1 : Int32)).toInt = (T 16 s).toInt + 1 := gw_add1 (by omega)
            rw [if_neg h4, if_neg h5, eg (5 - (T 16 s + (1 : Int32)).toInt.toNat) (by omega), d_dg hA (by rw [c8]; exact hN), c8]
            obtain ⟨T2, v1, v2, v3, v4⟩ := r_group (x := T 13 s) (y := T 14 s) (c := T 15 s) (dep := T 16 s) b1 hb hz z1 p1 k1 (by omega) hN15 hN
            rw [v1]
            have fN := gw_fu_lt ((nI N : Int32).toInt - ((0 : Int32) : Int32).toInt)
            have hNI : (nI N).toInt = (N : Int) := nI_toInt (by omega)
            have h0I : ((0 : Int32) : Int32).toInt = 0 := rfl
            have fs : ∀ a q, 12 ≤ a → a ≤ 16 → q < s → T2 a q = T a q := fun a q y1 y2 y3 => by rw [v3 a q (by omega) (by omega) (by omega), f1 a q (by omega)]
            have D := dC_g (dep := T 16 s) (k := 5 - (T 16 s + (1 : Int32)).toInt.toNat) hN15 (by omega : A + 4 < 1100) (dC_c s G fs hC1) rfl v4 N (gw_fu ((nI N : Int32).toInt - ((0 : Int32) : Int32).toInt)) 0 (by omega) (by omega)
            refine ih n (d_c0 S) T2 (s + N) (d + 1) _ (by omega) (by omega) (by omega) (eG_g2 hG0 v3) hO0 ?_ ?_ v2 c1 ?_ (fun q hq => ?_) D
            · rw [← b1]; exact funext fun q => v3 2 q (by omega) (by omega) (by omega)
            · rw [v3 0 22 (by omega) (by omega) (by omega)]; exact z1
            · rw [v3 0 21 (by omega) (by omega) (by omega)]; exact d1
            · by_cases hqs : q < s
              · rw [fs 12 q (by omega) (by omega) hqs, fs 13 q (by omega) (by omega) hqs, fs 14 q (by omega) (by omega) hqs, fs 16 q (by omega) (by omega) hqs]
                exact hE q (by omega)
              · have w := v4 (N - 1 - (q - s)) (by omega)
                rw [show s + (N - 1 - (N - 1 - (q - s))) = q by omega] at w
                rw [w.1, w.2.1, w.2.2.1, w.2.2.2.2]
                exact ⟨gw_and1023 _, ⟨by omega, by omega⟩, cXb_p rfl (cXb_g rfl q13 (d_scb (hb _) hz) (by omega) hK5) (d_scb (hb _) hz) (by omega) hK5 h4', cXb_p rfl (cXb_g rfl q14 (d_scb (hb _) hz) (by omega) hK5) (d_scb (hb _) hz) (by omega) hK5 h4'⟩
        · rw [if_neg h2, if_neg h2]
          exact fin _ _ hG0 hO0 (fun a q y1 y2 => f1 a q (by omega)) b1 z1 k1 c1 d1
      · rw [if_neg hp, if_neg hp]
        obtain ⟨w, hw, ew⟩ := vp_in_of ((hO0 9 1).2.2.1 rfl (Or.inl rfl)) (by decide)
        have hN0 : d_c0 S 8 ((A + 3) % 1024) &&& (15 : Int32) = nI N := by rw [c8]; exact hN
        have D := fun c => d_polygon (c := c) (x := T 13 s) (y := T 14 s) hw hA hN15 hz (cXb_z q13 hK5) (cXb_z q14 hK5) hO0 hG0 ew z1 p1 hN0
        have O := fun c => po_ok_Painter_drawPolygon (f_Painter_placePairs (d_c0 S) (nI A) (T 13 s) (T 14 s) z).2 (nI N) c (po_ok_Painter_placePairs (d_c0 S) (nI A) (T 13 s) (T 14 s) z hO0 (cXb_z q13 hK5) (cXb_z q14 hK5) hz) (vp_in_iff.mpr (by rw [nI_toInt (by omega)]; omega))
        rw [d_pb hA hN15 hN0, hN0]
        have all : ∀ c, eG j (G (f_Painter_drawPolygon (f_Painter_placePairs (d_c0 S) (nI A) (T 13 s) (T 14 s) z).2 (nI N) c).2) (fl_Model_draw_77 n (f_Model_polygon T1 (T 13 s) (T 14 s) c).2).2 := fun c => by
          obtain ⟨x1, x2, x3⟩ := D c
          refine fin _ _ x1 (O c) (fun a q y1 y2 => ?_) ?_ ?_ ?_ ?_ ?_
          · rw [x3 a q (by omega) (by omega) (by omega) (by omega) (by omega) (by omega), f1 a q (by omega)]
          · rw [← b1]; exact funext fun q => x3 2 q (by omega) (by omega) (by omega) (by omega) (by omega) (by omega)
          · rw [x3 0 22 (by omega) (by omega) (by omega) (by omega) (by omega) (by omega)]; exact z1
          · rw [x3 0 23 (by omega) (by omega) (by omega) (by omega) (by omega) (by omega)]; exact k1
          · rw [x2 6 5 (by omega) (by omega) (by omega) (by omega) (by omega)]; exact c1
          · rw [x3 0 21 (by omega) (by omega) (by omega) (by omega) (by omega) (by omega)]; exact d1
        by_cases hc : T 15 s = (-1 : Int32)
        · rw [if_pos hc, if_pos hc]
          exact all _
        · rw [if_neg hc, if_neg hc]
          exact all _
