theorem gw_nm {α γ : Type} {x : α} {K : α → γ} : gw_n x K = K x := rfl
theorem d_uo {S : gw_S} {i k a : Nat} {x : Int32} (h : ¬ a = i) : gw_u S i k x a = S a := by simp [gw_u, va_up, h]
def d_fd (a b : Int32) : Int32 := if 0 ≤ (a ^^^ b) then a / b else (if (a / b * b) = a then a / b else a / b - (1 : Int32))
theorem u_fdI (S : gw_S) (a b : Int32) : f_Math_fdI S a b = (d_fd a b, S) := by
  show (if 0 ≤ (a ^^^ b) then (a / b, S) else (if (a / b * b) = a then (a / b, S) else (a / b - (1 : Int32), S))) = _
  unfold d_fd
  split
  · rfl
  · split <;> rfl
def d_sc (b z : Int32) : Int32 := d_fd (b * z) (64 : Int32)
theorem c_sc (S : gw_S) (b z : Int32) : f_Painter_scaled S b z = (d_sc b z, S) := by
  unfold f_Painter_scaled
  rw [u_fdI, gw_bm]
  rfl
theorem r_sc {T : gw_S} {b z : Int32} (hb : vp_in b 256) (hz : cSh z) (ht : T 0 22 = z) : f_Model_scaled T b = (d_sc b z, T) := by
  have h := e_sc (S := T) hb hz ht
  rw [c_sc] at h
  refine Prod.ext h.symm ?_
  unfold f_Model_scaled
  rw [u_div, gw_bm]
theorem d_and {Y : Nat} (h : Y < 4294967296) : nI Y &&& (1023 : Int32) = nI (Y % 1024) := pk_andN (by omega) (m := 1023) 10 (by decide)
theorem c_rd {S : gw_S} {Y : Nat} (h : Y < 4294967296) : f_Bytes_read 7 S (nI Y) = (S 8 (Y % 1024), S) := by
  show (S 8 (nI Y &&& (1023 : Int32)).toNatClampNeg, S) = _
  rw [d_and h, nI_clamp (by omega)]
theorem r_rd {T : gw_S} {Y : Nat} (h : T 0 29 = nI (Y % 1024)) : f_Model_read T = (T 2 (Y % 1024), gw_u T 0 29 (nI ((Y + 1) % 1024))) := by
  show (T 2 (T 0 29).toNatClampNeg, gw_u T 0 29 ((T 0 29 + (1 : Int32)) &&& (1023 : Int32))) = _
  rw [h, nI_clamp (by omega), nI_1, d_and (by omega), show (Y % 1024 + 1) % 1024 = (Y + 1) % 1024 from by omega]
theorem l_pp {a4 y5 y6 : Int32} {N Y : Nat} (hN : N ≤ 15) (hY : Y < 2000) : ∀ (m n : Nat) (S : gw_S) (i : Nat), i + m = N → m < n → (∀ a q, ¬ ((a = 11 ∨ a = 12 ∨ a = 13) ∧ i ≤ q ∧ q < N) → (fl_Painter_placePairs_69 a4 y5 y6 (nI N) (nI Y) n S (nI i)).2 a q = S a q) ∧ (∀ q, i ≤ q → q < N → (fl_Painter_placePairs_69 a4 y5 y6 (nI N) (nI Y) n S (nI i)).2 11 q = y5 + d_sc (S 8 ((Y + 2 * q) % 1024)) a4 ∧ (fl_Painter_placePairs_69 a4 y5 y6 (nI N) (nI Y) n S (nI i)).2 13 q = y6 + d_sc (S 8 ((Y + 2 * q + 1) % 1024)) a4 ∧ (fl_Painter_placePairs_69 a4 y5 y6 (nI N) (nI Y) n S (nI i)).2 12 q = y5 + d_sc (S 8 ((Y + 2 * N + q) % 1024)) a4) := by
  intro m
  induction m with
  | zero =>
    intro n S i hi hn
    obtain ⟨n, rfl⟩ : ∃ n', n = n' + 1 := ⟨n - 1, by omega⟩
    have u : fl_Painter_placePairs_69 a4 y5 y6 (nI N) (nI Y) (n + 1) S (nI i) = ((), S) := if_pos (nI_le (by omega) (by omega))
    rw [u]
    exact ⟨fun _ _ _ => rfl, fun q h1 h2 => absurd h2 (by omega)⟩
  | succ m ih =>
    intro n S i hi hn
    obtain ⟨n, rfl⟩ : ∃ n', n = n' + 1 := ⟨n - 1, by omega⟩
    have hci : (nI i).toNatClampNeg = i := nI_clamp (by omega)
    have a1 : nI Y + (2 : Int32) * nI i = nI (Y + 2 * i) := by rw [show (2 : Int32) = nI 2 from rfl, pk_mul, nI_add]
    have a2 : nI Y + (2 : Int32) * nI N = nI (Y + 2 * N) := by rw [show (2 : Int32) = nI 2 from rfl, pk_mul, nI_add]
    have hge : ¬ nI N ≤ nI i := nI_ge (by omega) (by omega)
    have u : ∃ S3, fl_Painter_placePairs_69 a4 y5 y6 (nI N) (nI Y) (n + 1) S (nI i) = fl_Painter_placePairs_69 a4 y5 y6 (nI N) (nI Y) n S3 (nI (i + 1)) ∧ S3 = gw_u (gw_u (gw_u S 11 i (y5 + d_sc (S 8 ((Y + 2 * i) % 1024)) a4)) 13 i (y6 + d_sc (S 8 ((Y + 2 * i + 1) % 1024)) a4)) 12 i (y5 + d_sc (S 8 ((Y + 2 * N + i) % 1024)) a4) := by
      refine ⟨_, ?_, rfl⟩
      refine (if_neg hge).trans ?_
      rw [a1, c_rd (by omega), gw_bm, c_sc, gw_bm, gw_nm, hci, nI_1, c_rd (by omega), gw_bm, c_sc, gw_bm, gw_nm, a2, nI_add, c_rd (by omega), gw_bm, c_sc, gw_bm, gw_nm, nI_1, d_uo (by omega : ¬ 8 = 13), d_uo (by omega : ¬ 8 = 11), ← a2]
      rfl
    obtain ⟨S3, u1, u2⟩ := u
    rw [u1]
    have h := ih n S3 (i + 1) (by omega) (by omega)
    have e8 : S3 8 = S 8 := by rw [u2, d_uo (by omega), d_uo (by omega), d_uo (by omega)]
    rw [e8] at h
    refine ⟨fun a q z => ?_, fun q h1 h2 => ?_⟩
    · rw [h.1 a q (by omega), u2, gw_un (by omega), gw_un (by omega), gw_un (by omega)]
    · by_cases hq : q = i
      · subst hq
        rw [h.1 11 q (by omega), h.1 12 q (by omega), h.1 13 q (by omega), u2]
        refine ⟨?_, ?_, ?_⟩
        · rw [gw_un (by omega), gw_un (by omega), gw_us]
        · rw [gw_un (by omega), gw_us]
        · rw [gw_us]
      · exact h.2 q (by omega) h2
theorem l_r60 {c y7 y8 z : Int32} {N Y : Nat} (hN : N ≤ 15) (hz : cSh z) : ∀ (m n : Nat) (T : gw_S) (i : Nat), i + m = N → m < n → T 0 29 = nI ((Y + 2 * i) % 1024) → T 0 22 = z → (∀ k, vp_in (T 2 k) 256) → ∃ T', fl_Model_polygon_60 c (nI N) y7 y8 n T (nI i) = fl_Model_polygon_112 c (nI N) y7 (gw_fu ((nI N : Int32).toInt - ((0 : Int32) : Int32).toInt)) T' (0 : Int32) ∧ T' 0 29 = nI ((Y + 2 * N) % 1024) ∧ (∀ a q, ¬ (a = 0 ∧ q = 29) → ¬ ((a = 17 ∨ a = 19) ∧ i ≤ q ∧ q < N) → T' a q = T a q) ∧ (∀ q, i ≤ q → q < N → T' 17 q = y7 + d_sc (T 2 ((Y + 2 * q) % 1024)) z ∧ T' 19 q = y8 + d_sc (T 2 ((Y + 2 * q + 1) % 1024)) z) := by
  intro m
  induction m with
  | zero =>
    intro n T i hi hn hT hs hb
    obtain ⟨n, rfl⟩ : ∃ n', n = n' + 1 := ⟨n - 1, by omega⟩
    refine ⟨T, if_pos (nI_le (by omega) (by omega)), ?_, fun _ _ _ _ => rfl, fun q h1 h2 => absurd h2 (by omega)⟩
    rw [hT, show i = N by omega]
  | succ m ih =>
    intro n T i hi hn hT hs hb
    obtain ⟨n, rfl⟩ : ∃ n', n = n' + 1 := ⟨n - 1, by omega⟩
    have hci : (nI i).toNatClampNeg = i := nI_clamp (by omega)
    have hge : ¬ nI N ≤ nI i := nI_ge (by omega) (by omega)
    have u : ∃ T3, fl_Model_polygon_60 c (nI N) y7 y8 (n + 1) T (nI i) = fl_Model_polygon_60 c (nI N) y7 y8 n T3 (nI (i + 1)) ∧ T3 = gw_u (gw_u (gw_u (gw_u T 0 29 (nI ((Y + 2 * i + 1) % 1024))) 17 i (y7 + d_sc (T 2 ((Y + 2 * i) % 1024)) z)) 0 29 (nI ((Y + 2 * i + 1 + 1) % 1024))) 19 i (y8 + d_sc (T 2 ((Y + 2 * i + 1) % 1024)) z) := by
      refine ⟨_, ?_, rfl⟩
      refine (if_neg hge).trans ?_
      rw [r_rd hT, gw_bm, r_sc (hb _) hz (by rw [gw_un (by omega)]; exact hs), gw_bm, gw_nm, hci, r_rd (Y := Y + 2 * i + 1) (by rw [gw_un (by omega), gw_us]), gw_bm, d_uo (by omega : ¬ 2 = 17), d_uo (by omega : ¬ 2 = 0), r_sc (hb _) hz (by rw [gw_un (by omega), gw_un (by omega), gw_un (by omega)]; exact hs), gw_bm, gw_nm, nI_1]
      rfl
    obtain ⟨T3, u1, u2⟩ := u
    have e2 : T3 2 = T 2 := by rw [u2, d_uo (by omega), d_uo (by omega), d_uo (by omega), d_uo (by omega)]
    obtain ⟨T', r1, r2, r3, r4⟩ := ih n T3 (i + 1) (by omega) (by omega) (by rw [u2, gw_un (by omega), gw_us, show Y + 2 * (i + 1) = Y + 2 * i + 1 + 1 from by omega]) (by rw [u2, gw_un (by omega), gw_un (by omega), gw_un (by omega), gw_un (by omega)]; exact hs) (fun k => by rw [e2]; exact hb k)
    refine ⟨T', u1.trans r1, r2, fun a q z1 z2 => ?_, fun q h1 h2 => ?_⟩
    · rw [r3 a q z1 (by omega), u2, gw_un (by omega), gw_un (by omega), gw_un (by omega), gw_un (by omega)]
    · by_cases hq : q = i
      · subst hq
        rw [r3 17 q (by omega) (by omega), r3 19 q (by omega) (by omega), u2]
        refine ⟨?_, ?_⟩
        · rw [gw_un (by omega), gw_un (by omega), gw_us]
        · rw [gw_us]
      · have := r4 q (by omega) h2
        rw [e2] at this
        exact this
theorem l_r112 {c y7 z : Int32} {N Y : Nat} (hN : N ≤ 15) (hz : cSh z) : ∀ (m n : Nat) (T : gw_S) (i : Nat), i + m = N → m < n → T 0 29 = nI ((Y + i) % 1024) → T 0 22 = z → (∀ k, vp_in (T 2 k) 256) → ∃ T', fl_Model_polygon_112 c (nI N) y7 n T (nI i) = fl_Model_polygon_146 c (nI N) (gw_fu ((nI N : Int32).toInt - (((0 : Int32) : Int32) + (1 : Int32)).toInt)) T' (0 : Int32) ∧ (∀ a q, ¬ (a = 0 ∧ q = 29) → ¬ (a = 18 ∧ i ≤ q ∧ q < N) → T' a q = T a q) ∧ (∀ q, i ≤ q → q < N → T' 18 q = y7 + d_sc (T 2 ((Y + q) % 1024)) z) := by
  intro m
  induction m with
  | zero =>
    intro n T i hi hn hT hs hb
    obtain ⟨n, rfl⟩ : ∃ n', n = n' + 1 := ⟨n - 1, by omega⟩
    exact ⟨T, if_pos (nI_le (by omega) (by omega)), fun _ _ _ _ => rfl, fun q h1 h2 => absurd h2 (by omega)⟩
  | succ m ih =>
    intro n T i hi hn hT hs hb
    obtain ⟨n, rfl⟩ : ∃ n', n = n' + 1 := ⟨n - 1, by omega⟩
    have hci : (nI i).toNatClampNeg = i := nI_clamp (by omega)
    have hge : ¬ nI N ≤ nI i := nI_ge (by omega) (by omega)
    have u : ∃ T3, fl_Model_polygon_112 c (nI N) y7 (n + 1) T (nI i) = fl_Model_polygon_112 c (nI N) y7 n T3 (nI (i + 1)) ∧ T3 = gw_u (gw_u T 0 29 (nI ((Y + i + 1) % 1024))) 18 i (y7 + d_sc (T 2 ((Y + i) % 1024)) z) := by
      refine ⟨_, ?_, rfl⟩
      refine (if_neg hge).trans ?_
      rw [r_rd hT, gw_bm, r_sc (hb _) hz (by rw [gw_un (by omega)]; exact hs), gw_bm, gw_nm, hci, nI_1]
      rfl
    obtain ⟨T3, u1, u2⟩ := u
    have e2 : T3 2 = T 2 := by rw [u2, d_uo (by omega), d_uo (by omega)]
    obtain ⟨T', r1, r3, r4⟩ := ih n T3 (i + 1) (by omega) (by omega) (by rw [u2, gw_un (by omega), gw_us, show Y + (i + 1) = Y + i + 1 from by omega]) (by rw [u2, gw_un (by omega), gw_un (by omega)]; exact hs) (fun k => by rw [e2]; exact hb k)
    refine ⟨T', u1.trans r1, fun a q z1 z2 => ?_, fun q h1 h2 => ?_⟩
    · rw [r3 a q z1 (by omega), u2, gw_un (by omega), gw_un (by omega)]
    · by_cases hq : q = i
      · subst hq
        rw [r3 18 q (by omega) (by omega), u2, gw_us]
      · have := r4 q (by omega) h2
        rw [e2] at this
        exact this
