theorem gw_ui {S : gw_S} {i k : Nat} {x : Int32} : gw_u S i k x i = upd (S i) k x := by simp [gw_u, va_up]
theorem gw_ai {S : gw_S} {i : Nat} {f : Nat → Int32} : gw_a S i f i = f := by simp [gw_a, va_up]
theorem gw_ao {S : gw_S} {i a : Nat} {f : Nat → Int32} (h : ¬ a = i) : gw_a S i f a = S a := by simp [gw_a, va_up, h]
theorem gw_au {S : gw_S} {i k : Nat} {x : Int32} {f : Nat → Int32} : gw_a (gw_u S i k x) i f = gw_a S i f := by
  funext a
  by_cases h : a = i
  · subst h; rw [gw_ai, gw_ai]
  · rw [gw_ao h, gw_ao h, gw_uo h]
theorem gw_aself {S : gw_S} {i : Nat} : gw_a S i (S i) = S := by
  funext a
  by_cases h : a = i
  · subst h; rw [gw_ai]
  · rw [gw_ao h]
def e_ff (f : Nat → Int32) (lo hi : Nat) (c : Int32) : Nat → Int32 := fun i => if lo ≤ i ∧ i < hi then c else f i
theorem e_ff0 {f : Nat → Int32} {lo hi : Nat} {c : Int32} (h : hi ≤ lo) : e_ff f lo hi c = f := by
  funext i
  unfold e_ff
  rw [if_neg (by omega)]
theorem e_ff1 {f : Nat → Int32} {lo hi : Nat} {c : Int32} (h : lo < hi) : e_ff (upd f lo c) (lo + 1) hi c = e_ff f lo hi c := by
  funext i
  unfold e_ff
  by_cases h1 : i = lo
  · subst h1
    rw [if_neg (by omega), if_pos (by omega), pk_us]
  · rw [pk_un h1]
    by_cases h2 : lo ≤ i ∧ i < hi
    · rw [if_pos (by omega), if_pos h2]
    · rw [if_neg (by omega), if_neg h2]
theorem l_cfill {q : Nat} {a4 : Int32} (hq : q ≤ 10240) : ∀ (n : Nat) (S : gw_S) (p : Nat), p ≤ 10240 → 0 < n → (q : Int) - (p : Int) < (n : Int) → (fl_Arrays_fill_10 (nI q) a4 n S (nI p)).2 = gw_a S 10 (e_ff (S 10) p q (vp_nar .byte a4)) := by
  intro n
  induction n with
  | zero => intro S p _ h0 _; exact absurd h0 (Nat.lt_irrefl 0)
  | succ n ih =>
    intro S p hp _ hn
    show (if nI q ≤ nI p then ((), S) else fl_Arrays_fill_10 (nI q) a4 n (gw_u S 10 (nI p).toNatClampNeg (vp_nar .byte a4)) (nI p + (1 : Int32))).2 = _
    by_cases c : q ≤ p
    · rw [if_pos (nI_le c (by omega)), e_ff0 c, gw_aself]
    · rw [if_neg (nI_ge (by omega) (by omega)), nI_1, nI_clamp (by omega), ih _ _ (by omega) (by omega) (by omega), gw_au, gw_ui, e_ff1 (by omega)]
theorem u_cfill {S : gw_S} {p q : Nat} {c : Int32} (hp : p ≤ 10240) (hq : q ≤ 10240) (hpq : p ≤ q) : (f_Arrays_fill S (nI p) (nI q) c).2 = gw_a S 10 (e_ff (S 10) p q (vp_nar .byte c)) := by
  have u : f_Arrays_rangeCheck S (10240 : Int32) (nI p) (nI q) = ((), S) := rfl
  show (gw_b (f_Arrays_rangeCheck S (10240 : Int32) (nI p) (nI q)) fun _ S4 => (fl_Arrays_fill_10 (nI q) c (gw_fu ((nI q : Int32).toInt - (nI p : Int32).toInt)) S4 (nI p))).2 = _
  rw [u]
  have h := gw_fu_lt ((nI q : Int32).toInt - (nI p : Int32).toInt)
  rw [nI_toInt (by omega), nI_toInt (by omega)] at h
  show (fl_Arrays_fill_10 (nI q) c (gw_fu ((nI q : Int32).toInt - (nI p : Int32).toInt)) S (nI p)).2 = _
  exact l_cfill hq _ _ _ hp (gw_fu_pos _) (by rw [nI_toInt (by omega), nI_toInt (by omega)]; exact h)
theorem l_rfill {y : Nat} {c : Int32} (hy : y < 4) : ∀ (n : Nat) (T : gw_S) (p : Nat), p ≤ 2560 → 0 < n → (2560 : Int) - (p : Int) < (n : Int) → (fl_Model_fill_15 (nI y) c n T (nI p)).2 = gw_a T 4 (e_ff (T 4) (2560 * y + p) (2560 * y + 2560) (vp_nar .byte c.toInt8.toInt32)) := by
  intro n
  induction n with
  | zero => intro S p _ h0 _; exact absurd h0 (Nat.lt_irrefl 0)
  | succ n ih =>
    intro T p hp _ hn
    show (if (2560 : Int32) ≤ nI p then ((), T) else fl_Model_fill_15 (nI y) c n (gw_u T 4 (((2560 : Int32) * nI y) + nI p).toNatClampNeg (vp_nar .byte c.toInt8.toInt32)) (nI p + (1 : Int32))).2 = _
    by_cases h : 2560 ≤ p
    · rw [if_pos (show (2560 : Int32) ≤ nI p from nI_le (a := 2560) h (by omega)), e_ff0 (by omega), gw_aself]
    · rw [if_neg (show ¬ (2560 : Int32) ≤ nI p from nI_ge (b := 2560) (by omega) (by omega)), nI_1, show (2560 : Int32) = nI 2560 from rfl, pk_mul, nI_add, nI_clamp (by omega), ih _ _ (by omega) (by omega) (by omega), gw_au, gw_ui, show 2560 * y + (p + 1) = (2560 * y + p) + 1 from by omega, e_ff1 (by omega)]
theorem eR_a10 {S T : gw_S} {f : Nat → Int32} (h : eR S T) : eR (gw_a S 10 f) (gw_a T 4 f) := by
  intro a b c d hl
  by_cases e : a = 10
  · subst e
    have hc : c = 4 ∧ d = b := by
      unfold eL at hl
      rcases hl with q | q | q | q | q | q | q | q | q | q | q <;> omega
    obtain ⟨rfl, rfl⟩ := hc
    rw [gw_ai, gw_ai]
  · have hc : ¬ c = 4 := by
      intro z
      unfold eL at hl
      rcases hl with q | q | q | q | q | q | q | q | q | q | q <;> omega
    rw [gw_ao e, gw_ao hc]
    exact h a b c d hl
theorem eG_px {j : Nat} {S T : gw_S} {f : Nat → Int32} (h : eG j S T) : eG j (gw_a S 10 f) (gw_a T 4 f) := by
  obtain ⟨h1, h2, h3, h4, h5, h6⟩ := h
  refine ⟨eR_a10 h1, ?_, ?_, ?_, ?_, fun q hq => ?_⟩
  · rw [gw_ao (by omega)]; exact h2
  · rw [gw_ao (by omega), gw_ao (by omega)]; exact h3
  · rw [gw_ao (by omega), gw_ao (by omega)]; exact h4
  · rw [gw_ao (by omega)]; exact h5
  · rw [gw_ao (by omega), gw_ao (by omega)]; exact h6 q hq
theorem e_nar {v : Int32} (h : fits .byte (.int v) = true) : vp_nar .byte v = v := by
  rw [vp_nar_byte]
  have h1 : -128 ≤ v ∧ v ≤ 127 := by simpa [fits] using h
  rw [Int32.le_iff_toInt_le, Int32.le_iff_toInt_le, show (-128 : Int32).toInt = -128 from rfl, show (127 : Int32).toInt = 127 from rfl] at h1
  apply Int32.toInt_inj.mp
  have h3 : v.toInt8.toInt32.toInt = v.toInt8.toInt := by simp
  rw [h3, Int32.toInt_toInt8]
  exact Int.bmod_eq_of_le (by omega) (by omega)
theorem l_rcopy {y z : Nat} {T0 : gw_S} (hy : y < 4) (hz : z < 4) (hf : ∀ i, fits .byte (.int (T0 4 i)) = true) : ∀ (n p : Nat), p ≤ 2560 → 0 < n → (2560 : Int) - (p : Int) < (n : Int) → (fl_Model_copy_12 (nI y) (nI z) n (gw_a T0 4 (va_cpy (T0 4) (T0 4) (2560 * z) (2560 * y) p)) (nI p)).2 = gw_a T0 4 (va_cpy (T0 4) (T0 4) (2560 * z) (2560 * y) 2560) := by
  intro n
  induction n with
  | zero => intro p _ h0 _; exact absurd h0 (Nat.lt_irrefl 0)
  | succ n ih =>
    intro p hp _ hn
    show (if (2560 : Int32) ≤ nI p then ((), gw_a T0 4 (va_cpy (T0 4) (T0 4) (2560 * z) (2560 * y) p)) else fl_Model_copy_12 (nI y) (nI z) n (gw_u (gw_a T0 4 (va_cpy (T0 4) (T0 4) (2560 * z) (2560 * y) p)) 4 (((2560 : Int32) * nI y) + nI p).toNatClampNeg (vp_nar .byte ((gw_a T0 4 (va_cpy (T0 4) (T0 4) (2560 * z) (2560 * y) p)) 4 (((2560 : Int32) * nI z) + nI p).toNatClampNeg))) (nI p + (1 : Int32))).2 = _
    by_cases h : 2560 ≤ p
    · have e : p = 2560 := by omega
      rw [if_pos (show (2560 : Int32) ≤ nI p from nI_le (a := 2560) h (by omega)), e]
    · rw [if_neg (show ¬ (2560 : Int32) ≤ nI p from nI_ge (b := 2560) (by omega) (by omega)), nI_1, show (2560 : Int32) = nI 2560 from rfl, pk_mul, pk_mul, nI_add, nI_add, nI_clamp (by omega), nI_clamp (by omega), gw_ai]
      have hsrc : va_cpy (T0 4) (T0 4) (2560 * z) (2560 * y) p (2560 * z + p) = T0 4 (2560 * z + p) := by
        unfold va_cpy
        by_cases q : 2560 * y ≤ 2560 * z + p ∧ 2560 * z + p < 2560 * y + p
        · exact absurd q (by omega)
        · rw [if_neg q]
      rw [hsrc, e_nar (hf _)]
      have hst : gw_u (gw_a T0 4 (va_cpy (T0 4) (T0 4) (2560 * z) (2560 * y) p)) 4 (2560 * y + p) (T0 4 (2560 * z + p)) = gw_a T0 4 (va_cpy (T0 4) (T0 4) (2560 * z) (2560 * y) (p + 1)) := by
        funext a b
        by_cases ha : a = 4
        · subst ha
          rw [gw_ui, gw_ai, gw_ai]
          unfold va_cpy upd
          dsimp only
          by_cases hb : b = 2560 * y + p
          · subst hb
            rw [if_pos rfl, if_pos (by omega)]
            congr 1; omega
          · rw [if_neg hb]
            by_cases hc : 2560 * y ≤ b ∧ b < 2560 * y + p
            · rw [if_pos hc, if_pos (by omega)]
            · rw [if_neg hc, if_neg (by omega)]
        · rw [gw_uo ha, gw_ao ha, gw_ao ha]
      rw [hst]
      exact ih (p + 1) (by omega) (by omega) (by omega)
theorem q_page {j : Nat} {S T : gw_S} (h : eQ j S T) : (f_Pages_pageOf (f_Player_nextByte S).2 (f_Player_nextByte S).1).1 = (f_Model_page T).1 ∧ (vp_in (f_Model_page T).1 4 ∧ eQ j (f_Pages_pageOf (f_Player_nextByte S).2 (f_Player_nextByte S).1).2 (f_Model_page T).2) := by
  obtain ⟨h1, h2, h3, h4⟩ := h
  obtain ⟨e1, e2⟩ := e_page h1 h2
  exact ⟨e1, rb_page T h3, e2, po_at_Model_page T h2, po_ok_Model_page T h3 h2, po_ok_Pages_pageOf _ _ (po_ok_Player_nextByte S h4)⟩
theorem e_b2 {γ δ : Type} {A : Int32 × gw_S} {F : gw_S → Int32 → Int32 × gw_S} {B : Int32 × gw_S} {K : Int32 → gw_S → γ} {L : Int32 → gw_S → δ} {Ψ : γ → δ → Prop} {P : Int32 → gw_S → gw_S → Prop} (h : (F A.2 A.1).1 = B.1 ∧ P B.1 (F A.2 A.1).2 B.2) (k : ∀ r U V, P r U V → Ψ (K r U) (L r V)) : Ψ (gw_b A fun r S => gw_b (F S r) K) (gw_b B L) := by
  obtain ⟨h1, h2⟩ := h
  show Ψ (K (F A.2 A.1).1 (F A.2 A.1).2) (L B.1 B.2)
  rw [h1]
  exact k _ _ _ h2
theorem e_pfill {j : Nat} {U V : gw_S} {p c : Int32} (h : eQ j U V) (hp : vp_in p 4) : eG j (f_Pages_fill U p c).2 (fl_Model_fill_15 p c (gw_fu (((2560 : Int32) : Int32).toInt - ((0 : Int32) : Int32).toInt)) V (0 : Int32)).2 := by
  obtain ⟨y, hy, rfl⟩ := vp_in_of hp (by decide)
  have e1 : (f_Pages_fill U (nI y) c).2 = (f_Arrays_fill U (nI y * (2560 : Int32)) (nI y * (2560 : Int32) + (2560 : Int32)) c.toInt8.toInt32).2 := rfl
  have hf := gw_fu_lt (((2560 : Int32) : Int32).toInt - ((0 : Int32) : Int32).toInt)
  rw [e1, show (2560 : Int32) = nI 2560 from rfl, pk_mul, nI_add, u_cfill (by omega) (by omega) (by omega)]
  have e2 := l_rfill (c := c) hy (gw_fu (((2560 : Int32) : Int32).toInt - ((0 : Int32) : Int32).toInt)) V 0 (by omega) (gw_fu_pos _) hf
  rw [show (0 : Int32) = nI 0 from rfl, show nI 2560 = (2560 : Int32) from rfl]
  rw [show (0 : Int32) = nI 0 from rfl] at e2
  rw [e2, eR_f10 h.1.1, show y * 2560 = 2560 * y + 0 from by omega]
  exact eG_px h.1
theorem e_pcopy {j : Nat} {U V : gw_S} {p q : Int32} (h : eQ j U V) (hp : vp_in p 4) (hq : vp_in q 4) : eG j (f_Pages_copy U p q).2 (fl_Model_copy_12 p q (gw_fu (((2560 : Int32) : Int32).toInt - ((0 : Int32) : Int32).toInt)) V (0 : Int32)).2 := by
  obtain ⟨y, hy, rfl⟩ := vp_in_of hp (by decide)
  obtain ⟨z, hz, rfl⟩ := vp_in_of hq (by decide)
  have e1 : (f_Pages_copy U (nI y) (nI z)).2 = gw_a U 10 (va_cpy (U 10) (U 10) (nI z * (2560 : Int32)).toNatClampNeg (nI y * (2560 : Int32)).toNatClampNeg (2560 : Int32).toNatClampNeg) := rfl
  have hf := gw_fu_lt (((2560 : Int32) : Int32).toInt - ((0 : Int32) : Int32).toInt)
  have hb : ∀ i, fits .byte (.int (V 4 i)) = true := fun i => by rw [← eR_f10 h.1.1]; exact (h.2.2.2 10 i).2.2.2.1 rfl
  have e2 := l_rcopy (T0 := V) hy hz hb (gw_fu (((2560 : Int32) : Int32).toInt - ((0 : Int32) : Int32).toInt)) 0 (by omega) (gw_fu_pos _) hf
  have e3 : gw_a V 4 (va_cpy (V 4) (V 4) (2560 * z) (2560 * y) 0) = V := by
    have : va_cpy (V 4) (V 4) (2560 * z) (2560 * y) 0 = V 4 := by
      funext i
      unfold va_cpy
      rw [if_neg (by omega)]
    rw [this, gw_aself]
  rw [e3, show nI 0 = (0 : Int32) from rfl] at e2
  rw [e1, e2, show (2560 : Int32) = nI 2560 from rfl, pk_mul, pk_mul, nI_clamp (by omega), nI_clamp (by omega), nI_clamp (by omega), eR_f10 h.1.1, Nat.mul_comm z, Nat.mul_comm y]
  exact eG_px h.1
