theorem r_lyE {T : gw_S} {s : Nat} {a b c d e : Int32} (h : T 0 23 = nI s) (hs : s < 100000) : ∃ T', f_Model_lay T a b c d e = ((), T') ∧ T' 0 23 = nI (s + 1) ∧ (∀ i q, ¬ (i = 0 ∧ q = 23) → ¬ (12 ≤ i ∧ i ≤ 16 ∧ q = s) → T' i q = T i q) ∧ T' 12 s = a ∧ T' 13 s = b ∧ T' 14 s = c ∧ T' 15 s = d ∧ T' 16 s = e := by
  have hc : (nI s).toNatClampNeg = s := nI_clamp (by omega)
  refine ⟨gw_u (gw_u (gw_u (gw_u (gw_u (gw_u T 12 s a) 13 s b) 14 s c) 15 s d) 16 s e) 0 23 (nI (s + 1)), ?_, by rw [gw_us], fun i q h1 h2 => ?_, ?_, ?_, ?_, ?_, ?_⟩
  · unfold f_Model_lay
    rw [gw_nm, h, hc, gw_nm, gw_un (by omega), h, hc, gw_nm, gw_un (by omega), gw_un (by omega), h, hc, gw_nm, gw_un (by omega), gw_un (by omega), gw_un (by omega), h, hc, gw_nm, gw_un (by omega), gw_un (by omega), gw_un (by omega), gw_un (by omega), h, hc, gw_nm, gw_un (by omega), gw_un (by omega), gw_un (by omega), gw_un (by omega), gw_un (by omega), h, nI_1]
  · rw [gw_un (by omega), gw_un (by omega), gw_un (by omega), gw_un (by omega), gw_un (by omega), gw_un (by omega)]
  · rw [gw_un (by omega), gw_un (by omega), gw_un (by omega), gw_un (by omega), gw_un (by omega), gw_us]
  · rw [gw_un (by omega), gw_un (by omega), gw_un (by omega), gw_un (by omega), gw_us]
  · rw [gw_un (by omega), gw_un (by omega), gw_un (by omega), gw_us]
  · rw [gw_un (by omega), gw_un (by omega), gw_us]
  · rw [gw_un (by omega), gw_us]
theorem r_rdE {T : gw_S} {Y : Nat} {B : Nat → Int32} (h : T 0 29 = nI (Y % 1024)) (hB : T 2 = B) : ∃ T1, f_Model_read T = (B (Y % 1024), T1) ∧ T1 0 29 = nI ((Y + 1) % 1024) ∧ T1 2 = B ∧ ∀ a q, ¬ (a = 0 ∧ q = 29) → T1 a q = T a q :=
  ⟨_, by rw [r_rd h, hB], by rw [gw_us], by rw [d_uo (by omega)]; exact hB, fun a q z => gw_un z⟩
theorem r_gstep {c dep X Y y8 z : Int32} {B : Nat → Int32} {N i p s n : Nat} {T : gw_S} (hN : N ≤ 15) (hi : i < N) (hs : s < 100000) (hz : cSh z) (hB : T 2 = B) (hb : ∀ k, vp_in (B k) 256) (t22 : T 0 22 = z) (t29 : T 0 29 = nI (p % 1024)) (t23 : T 0 23 = nI s) : ∃ T', fl_Model_group_42 c dep X Y (nI N) y8 (n + 1) T (nI i) = fl_Model_group_42 c dep X Y (nI N) y8 n T' (nI (i + 1)) ∧ T' 0 29 = nI ((p + d_st B p) % 1024) ∧ T' 0 23 = nI (s + 1) ∧ (∀ a q, ¬ (a = 0 ∧ q = 29) → ¬ (a = 0 ∧ q = 23) → ¬ (12 ≤ a ∧ a ≤ 16 ∧ q = s) → T' a q = T a q) ∧ T' 12 s = d_pr B p &&& (1023 : Int32) ∧ T' 13 s = X + d_sc (B ((p + 2) % 1024)) z ∧ T' 14 s = Y + d_sc (B ((p + 3) % 1024)) z ∧ T' 15 s = d_cl B p c ∧ T' 16 s = dep + (1 : Int32) := by
  have hge : ¬ nI N ≤ nI i := nI_ge (by omega) (by omega)
  obtain ⟨T1, w1, p1, b1, g1⟩ := r_rdE t29 hB
  obtain ⟨T2, w2, p2, b2, g2⟩ := r_rdE p1 b1
  obtain ⟨T3, w3, p3, b3, g3⟩ := r_rdE p2 b2
  obtain ⟨T4, w4, p4, b4, g4⟩ := r_rdE p3 b3
  have z3 : T3 0 22 = z := by rw [g3 0 22 (by omega), g2 0 22 (by omega), g1 0 22 (by omega)]; exact t22
  have z4 : T4 0 22 = z := by rw [g4 0 22 (by omega)]; exact z3
  have G : ∀ a q, ¬ (a = 0 ∧ q = 29) → T4 a q = T a q := fun a q h => by rw [g4 a q h, g3 a q h, g2 a q h, g1 a q h]
  obtain ⟨v, hv, ev⟩ := d_pair (hb (p % 1024)) (hb ((p + 1) % 1024))
  have hfl := d_fl hv
  rw [← ev] at hfl
  have hpr : (B (p % 1024) <<< ((8 : Int32) &&& 31)) ||| B ((p + 1) % 1024) = d_pr B p := rfl
  rw [hpr] at hfl
  by_cases q : d_pr B p &&& (32768 : Int32) = 0
  · obtain ⟨T5, w5, p5, g5, y1, y2, y3, y4, y5⟩ := r_lyE (a := d_pr B p &&& (1023 : Int32)) (b := X + d_sc (B ((p + 2) % 1024)) z) (c := Y + d_sc (B ((p + 3) % 1024)) z) (d := c) (e := dep + (1 : Int32)) (T := T4) (by rw [G 0 23 (by omega)]; exact t23) hs
    refine ⟨T5, ?_, ?_, p5, fun a q z1 z2 z3 => by rw [g5 a q z2 z3, G a q z1], y1, y2, y3, ?_, y5⟩
    · refine (if_neg hge).trans ?_
      rw [w1, gw_bm, w2, gw_bm, gw_nm, hpr, w3, gw_bm, r_sc (hb _) hz z3, gw_bm, gw_nm, w4, gw_bm, r_sc (hb _) hz z4, gw_bm, gw_nm, if_pos (hfl.mp q), w5, gw_bm, nI_1]
      rfl
    · rw [g5 0 29 (by omega) (by omega), p4]
      unfold d_st
      rw [if_pos q]
    · rw [y4]
      unfold d_cl
      rw [if_pos q]
  · obtain ⟨T4', w4', p4', b4', g4'⟩ := r_rdE p4 b4
    obtain ⟨T5, w5, p5, g5, y1, y2, y3, y4, y5⟩ := r_lyE (a := d_pr B p &&& (1023 : Int32)) (b := X + d_sc (B ((p + 2) % 1024)) z) (c := Y + d_sc (B ((p + 3) % 1024)) z) (d := B ((p + 1 + 1 + 1 + 1) % 1024) &&& (15 : Int32)) (e := dep + (1 : Int32)) (T := T4') (by rw [g4' 0 23 (by omega), G 0 23 (by omega)]; exact t23) hs
    refine ⟨T5, ?_, ?_, p5, fun a q z1 z2 z3 => by rw [g5 a q z2 z3, g4' a q z1, G a q z1], y1, y2, y3, ?_, y5⟩
    · refine (if_neg hge).trans ?_
      rw [w1, gw_bm, w2, gw_bm, gw_nm, hpr, w3, gw_bm, r_sc (hb _) hz z3, gw_bm, gw_nm, w4, gw_bm, r_sc (hb _) hz z4, gw_bm, gw_nm, if_neg (fun h => q (hfl.mpr h)), w4', gw_bm, gw_nm, w5, gw_bm, nI_1]
      rfl
    · rw [g5 0 29 (by omega) (by omega), p4']
      unfold d_st
      rw [if_neg q]
    · rw [y4]
      unfold d_cl
      rw [if_neg q]
theorem l_r42 {c dep X Y y8 z : Int32} {B : Nat → Int32} {N p0 s : Nat} (hN : N ≤ 15) (hs : s < 90000) (hz : cSh z) (hb : ∀ k, vp_in (B k) 256) : ∀ (m n : Nat) (T : gw_S) (i : Nat), i + m = N → m < n → T 2 = B → T 0 22 = z → T 0 29 = nI (d_ps B p0 i % 1024) → T 0 23 = nI (s + i) → ∃ T', fl_Model_group_42 c dep X Y (nI N) y8 n T (nI i) = fl_Model_group_143 (nI N) y8 (gw_fu (((nI N / (2 : Int32)) : Int32).toInt - ((0 : Int32) : Int32).toInt)) T' (0 : Int32) ∧ T' 0 23 = nI (s + N) ∧ (∀ a q, ¬ (a = 0 ∧ q = 29) → ¬ (a = 0 ∧ q = 23) → ¬ (12 ≤ a ∧ a ≤ 16 ∧ s + i ≤ q) → T' a q = T a q) ∧ ∀ t, i ≤ t → t < N → T' 12 (s + t) = d_pr B (d_ps B p0 t) &&& (1023 : Int32) ∧ T' 13 (s + t) = X + d_sc (B ((d_ps B p0 t + 2) % 1024)) z ∧ T' 14 (s + t) = Y + d_sc (B ((d_ps B p0 t + 3) % 1024)) z ∧ T' 15 (s + t) = d_cl B (d_ps B p0 t) c ∧ T' 16 (s + t) = dep + (1 : Int32) := by
  intro m
  induction m with
  | zero =>
    intro n T i hi hn hB t22 t29 t23
    obtain ⟨n, rfl⟩ : ∃ n', n = n' + 1 := ⟨n - 1, by omega⟩
    exact ⟨T, if_pos (nI_le (by omega) (by omega)), by rw [t23, show i = N by omega], fun _ _ _ _ _ => rfl, fun t h1 h2 => absurd h2 (by omega)⟩
  | succ m ih =>
    intro n T i hi hn hB t22 t29 t23
    obtain ⟨n, rfl⟩ : ∃ n', n = n' + 1 := ⟨n - 1, by omega⟩
    obtain ⟨T5, u, p5, q5, g5, y1, y2, y3, y4, y5⟩ := r_gstep (c := c) (dep := dep) (X := X) (Y := Y) (y8 := y8) (n := n) hN (by omega : i < N) (by omega : s + i < 100000) hz hB hb t22 t29 t23
    have hB5 : T5 2 = B := by rw [← hB]; exact funext fun q => g5 2 q (by omega) (by omega) (by omega)
    obtain ⟨T', r1, r2, r3, r4⟩ := ih n T5 (i + 1) (by omega) (by omega) hB5 (by rw [g5 0 22 (by omega) (by omega) (by omega)]; exact t22) p5 q5
    refine ⟨T', u.trans r1, r2, fun a q z1 z2 z3 => by rw [r3 a q z1 z2 (by omega), g5 a q z1 z2 (by omega)], fun t h1 h2 => ?_⟩
    by_cases e : t = i
    · subst e
      rw [r3 12 (s + t) (by omega) (by omega) (by omega), r3 13 (s + t) (by omega) (by omega) (by omega), r3 14 (s + t) (by omega) (by omega) (by omega), r3 15 (s + t) (by omega) (by omega) (by omega), r3 16 (s + t) (by omega) (by omega) (by omega)]
      exact ⟨y1, y2, y3, y4, y5⟩
    · exact r4 t (by omega) h2
theorem r_sw {T : gw_S} {u v : Nat} (hu : u < 100000) (hv : v < 100000) (huv : u ≠ v) : ∃ T', f_Model_swap T (nI u) (nI v) = ((), T') ∧ (∀ a q, ¬ (12 ≤ a ∧ a ≤ 15 ∧ (q = u ∨ q = v)) → T' a q = T a q) ∧ ∀ a, 12 ≤ a → a ≤ 15 → T' a u = T a v ∧ T' a v = T a u := by
  have hcu : (nI u).toNatClampNeg = u := nI_clamp (by omega)
  have hcv : (nI v).toNatClampNeg = v := nI_clamp (by omega)
  unfold f_Model_swap gw_n
  dsimp only
  rw [hcu, hcv]
  refine ⟨_, rfl, fun a q h => ?_, fun a h1 h2 => ?_⟩
  · rw [gw_un (by omega), gw_un (by omega), gw_un (by omega), gw_un (by omega), gw_un (by omega), gw_un (by omega), gw_un (by omega), gw_un (by omega)]
  · have h3 : a = 12 ∨ a = 13 ∨ a = 14 ∨ a = 15 := by omega
    rcases h3 with rfl | rfl | rfl | rfl <;> simp [gw_u, va_up, upd, huv, huv.symm]
theorem d_div2 : ∀ n : Fin 16, nI n.val / (2 : Int32) = nI (n.val / 2) := by decide +kernel
theorem d_bk {s N i : Nat} (hs : s < 90000) (hN : N ≤ 15) (hi : i < N) : ((nI s + nI N) - (1 : Int32)) - nI i = nI (s + (N - 1 - i)) := by
  have h1 : (1 : Int32).toInt = 1 := rfl
  have hi' : (nI i).toInt = (i : Int) := nI_toInt (by omega)
  have hsn : (nI (s + N)).toInt = ((s + N : Nat) : Int) := nI_toInt (by omega)
  have e1 : (nI (s + N) - (1 : Int32)).toInt = ((s + N : Nat) : Int) - 1 := by rw [gw_subI (by omega) (by omega), hsn, h1]
  apply Int32.toInt_inj.mp
  rw [nI_add, gw_subI (by omega) (by omega), e1, hi', nI_toInt (by omega)]
  omega
theorem l_r143 {N s : Nat} (hN : N ≤ 15) (hs : s < 90000) : ∀ (m n : Nat) (T : gw_S) (i : Nat), i + m = N / 2 → m < n → ∃ T', fl_Model_group_143 (nI N) (nI s) n T (nI i) = ((), T') ∧ (∀ a q, ¬ (12 ≤ a ∧ a ≤ 15 ∧ s + i ≤ q ∧ q < s + N) → T' a q = T a q) ∧ (∀ a t, 12 ≤ a → a ≤ 15 → i ≤ t → t < N - i → T' a (s + t) = T a (s + (N - 1 - t))) ∧ (∀ a t, N - i ≤ t → T' a (s + t) = T a (s + t)) := by
  have h2 := d_div2 ⟨N, by omega⟩
  dsimp only at h2
  intro m
  induction m with
  | zero =>
    intro n T i hi hn
    obtain ⟨n, rfl⟩ : ∃ n', n = n' + 1 := ⟨n - 1, by omega⟩
    refine ⟨T, if_pos (by rw [h2]; exact nI_le (by omega) (by omega)), fun _ _ _ => rfl, fun a t _ _ h3 h4 => ?_, fun _ _ _ => rfl⟩
    rw [show N - 1 - t = t by omega]
  | succ m ih =>
    intro n T i hi hn
    obtain ⟨n, rfl⟩ : ∃ n', n = n' + 1 := ⟨n - 1, by omega⟩
    have hge : ¬ nI N / (2 : Int32) ≤ nI i := by rw [h2]; exact nI_ge (by omega) (by omega)
    obtain ⟨T1, w1, g1, k1⟩ := r_sw (T := T) (u := s + i) (v := s + (N - 1 - i)) (by omega) (by omega) (by omega)
    have u : fl_Model_group_143 (nI N) (nI s) (n + 1) T (nI i) = fl_Model_group_143 (nI N) (nI s) n T1 (nI (i + 1)) := by
      refine (if_neg hge).trans ?_
      rw [nI_add s i, d_bk hs hN (by omega), w1, gw_bm, nI_1]
      rfl
    obtain ⟨T', r1, r2, r3, r4⟩ := ih n T1 (i + 1) (by omega) (by omega)
    refine ⟨T', u.trans r1, fun a q z => ?_, fun a t z1 z2 z3 z4 => ?_, fun a t z => ?_⟩
    · rw [r2 a q (by omega), g1 a q (by omega)]
    · by_cases e1 : t = i
      · subst e1
        rw [r2 a (s + t) (by omega)]
        exact (k1 a z1 z2).1
      · by_cases e2 : t = N - 1 - i
        · subst e2
          rw [r4 a _ (by omega), show N - 1 - (N - 1 - i) = i by omega]
          exact (k1 a z1 z2).2
        · rw [r3 a t z1 z2 (by omega) (by omega), g1 a _ (by omega)]
    · rw [r4 a t (by omega), g1 a _ (by omega)]
theorem r_group {A s N : Nat} {x y c dep z : Int32} {B : Nat → Int32} {T : gw_S} (hB : T 2 = B) (hb : ∀ k, vp_in (B k) 256) (hz : cSh z) (t22 : T 0 22 = z) (t29 : T 0 29 = nI ((A + 1) % 1024)) (t23 : T 0 23 = nI s) (hs : s < 90000) (hN15 : N ≤ 15) (hN : B ((A + 3) % 1024) &&& (15 : Int32) = nI N) : ∃ T', f_Model_group T x y c dep = ((), T') ∧ T' 0 23 = nI (s + N) ∧ (∀ a q, ¬ (a = 0 ∧ q = 29) → ¬ (a = 0 ∧ q = 23) → ¬ (12 ≤ a ∧ a ≤ 16 ∧ s ≤ q) → T' a q = T a q) ∧ ∀ i, i < N → T' 12 (s + (N - 1 - i)) = d_pr B (d_ps B (A + 4) i) &&& (1023 : Int32) ∧ T' 13 (s + (N - 1 - i)) = (x - d_sc (B ((A + 1) % 1024)) z) + d_sc (B ((d_ps B (A + 4) i + 2) % 1024)) z ∧ T' 14 (s + (N - 1 - i)) = (y - d_sc (B ((A + 2) % 1024)) z) + d_sc (B ((d_ps B (A + 4) i + 3) % 1024)) z ∧ T' 15 (s + (N - 1 - i)) = d_cl B (d_ps B (A + 4) i) c ∧ T' 16 (s + (N - 1 - i)) = dep + (1 : Int32) := by
  obtain ⟨T1, w1, p1, b1, g1⟩ := r_rdE t29 hB
  obtain ⟨T2, w2, p2, b2, g2⟩ := r_rdE p1 b1
  obtain ⟨T3, w3, p3, b3, g3⟩ := r_rdE p2 b2
  have z1 : T1 0 22 = z := by rw [g1 0 22 (by omega)]; exact t22
  have z2 : T2 0 22 = z := by rw [g2 0 22 (by omega)]; exact z1
  have z3 : T3 0 22 = z := by rw [g3 0 22 (by omega)]; exact z2
  have c3 : T3 0 23 = nI s := by rw [g3 0 23 (by omega), g2 0 23 (by omega), g1 0 23 (by omega)]; exact t23
  have f1 := gw_fu_lt ((nI N : Int32).toInt - ((0 : Int32) : Int32).toInt)
  have hNI : (nI N).toInt = (N : Int) := nI_toInt (by omega)
  have h0I : ((0 : Int32) : Int32).toInt = 0 := rfl
  have f2 := gw_fu_lt (((nI N / (2 : Int32)) : Int32).toInt - ((0 : Int32) : Int32).toInt)
  have h2 := d_div2 ⟨N, by omega⟩
  dsimp only at h2
  have hN2 : (nI N / (2 : Int32)).toInt = ((N / 2 : Nat) : Int) := by rw [h2, nI_toInt (by omega)]
  obtain ⟨T4, r1, r2, r3, r4⟩ := l_r42 (c := c) (dep := dep) (X := x - d_sc (B ((A + 1) % 1024)) z) (Y := y - d_sc (B ((A + 2) % 1024)) z) (y8 := nI s) (p0 := A + 4) hN15 hs hz hb N (gw_fu ((nI N : Int32).toInt - ((0 : Int32) : Int32).toInt)) T3 0 (by omega) (by omega) b3 z3 p3 c3
  obtain ⟨T5, v1, v2, v3, v4⟩ := l_r143 hN15 hs (N / 2) (gw_fu (((nI N / (2 : Int32)) : Int32).toInt - ((0 : Int32) : Int32).toInt)) T4 0 (by omega) (by omega)
  refine ⟨T5, ?_, ?_, fun a q q1 q2 q3 => ?_, fun i hi => ?_⟩
  · unfold f_Model_group
    rw [w1, gw_bm, r_sc (hb _) hz z1, gw_bm, gw_nm, w2, gw_bm, r_sc (hb _) hz z2, gw_bm, gw_nm, w3, gw_bm, gw_nm, gw_nm, c3]
    rw [show (B ((A + 1 + 1 + 1) % 1024) &&& (15 : Int32)) = nI N from hN]
    exact r1.trans v1
  · rw [v2 0 23 (by omega)]; exact r2
  · rw [v2 a q (by omega), r3 a q q1 q2 (by omega), g3 a q q1, g2 a q q1, g1 a q q1]
  · have e := r4 i (by omega) hi
    rw [v3 12 (N - 1 - i) (by omega) (by omega) (by omega) (by omega), v3 13 (N - 1 - i) (by omega) (by omega) (by omega) (by omega), v3 14 (N - 1 - i) (by omega) (by omega) (by omega) (by omega), v3 15 (N - 1 - i) (by omega) (by omega) (by omega) (by omega), v2 16 (s + (N - 1 - i)) (by omega), show N - 1 - (N - 1 - i) = i by omega, (r4 (N - 1 - i) (by omega) (by omega)).2.2.2.2]
    exact ⟨e.1, e.2.1, e.2.2.1, e.2.2.2.1, rfl⟩
