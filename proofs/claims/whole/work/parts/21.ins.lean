theorem e_b {α γ δ : Type} {A B : α × gw_S} {K : α → gw_S → γ} {L : α → gw_S → δ} {Ψ : γ → δ → Prop} {P : α → gw_S → gw_S → Prop} (h : A.1 = B.1 ∧ P B.1 A.2 B.2) (k : ∀ r U V, P r U V → Ψ (K r U) (L r V)) : Ψ (gw_b A K) (gw_b B L) := by
  obtain ⟨h1, h2⟩ := h
  show Ψ (K A.1 A.2) (L B.1 B.2)
  rw [h1]
  exact k _ _ _ h2
theorem e_n {α γ δ : Type} {x y : α} {K : α → γ} {L : α → δ} {Ψ : γ → δ → Prop} (h : x = y) (k : ∀ z, z = y → Ψ (K z) (L z)) : Ψ (gw_n x K) (gw_n y L) := by
  subst h; exact k _ rfl
theorem e_if {γ δ : Type} {c : Prop} [Decidable c] {a b : γ} {a' b' : δ} {Ψ : γ → δ → Prop} (ka : c → Ψ a a') (kb : ¬ c → Ψ b b') : Ψ (if c then a else b) (if c then a' else b') := by
  by_cases h : c
  · rw [if_pos h, if_pos h]; exact ka h
  · rw [if_neg h, if_neg h]; exact kb h
theorem e_if2 {γ δ : Type} {c d : Prop} [Decidable c] [Decidable d] {a b : γ} {a' b' : δ} {Ψ : γ → δ → Prop} (e : c ↔ d) (ka : c → Ψ a a') (kb : ¬ c → Ψ b b') : Ψ (if c then a else b) (if d then a' else b') := by
  by_cases h : c
  · rw [if_pos h, if_pos (e.mp h)]; exact ka h
  · rw [if_neg h, if_neg (fun q => h (e.mpr q))]; exact kb h
def eQ (j : Nat) (S T : gw_S) : Prop := eG j S T ∧ vp_in (T 0 18) 1024 ∧ rOK T ∧ cOK S
def eZ (j : Nat) (S T : gw_S) : Prop := eG j S T ∨ eX j S T
theorem q_next {j : Nat} {S T : gw_S} (h : eQ j S T) : (f_Player_nextByte S).1 = (f_Model_next T).1 ∧ (vp_in (f_Model_next T).1 256 ∧ eQ j (f_Player_nextByte S).2 (f_Model_next T).2) := by
  obtain ⟨h1, h2, h3, h4⟩ := h
  obtain ⟨e1, e2⟩ := e_next h1 h2
  refine ⟨e1, ?_, e2, po_at_Model_next T h2, po_ok_Model_next T h3, po_ok_Player_nextByte S h4⟩
  rw [← e1]
  exact (h4 3 _).1 (Or.inl rfl)
theorem q_name {j : Nat} {S T : gw_S} (h : eQ j S T) : (f_Player_nextVariable S).1 = (f_Model_name T).1 ∧ (vp_in (f_Model_name T).1 32 ∧ eQ j (f_Player_nextVariable S).2 (f_Model_name T).2) := by
  obtain ⟨h1, h2, h3, h4⟩ := h
  obtain ⟨e1, e2⟩ := e_name h1 h2
  exact ⟨e1, rb_name T, e2, po_at_Model_name T h2, po_ok_Model_name T h3, po_ok_Player_nextVariable S h4⟩
theorem q_place {j : Nat} {S T : gw_S} (h : eQ j S T) : (f_Player_nextAddress S).1 = (f_Model_place T).1 ∧ (vp_in (f_Model_place T).1 1024 ∧ eQ j (f_Player_nextAddress S).2 (f_Model_place T).2) := by
  obtain ⟨h1, h2, h3, h4⟩ := h
  obtain ⟨e1, e2⟩ := e_place h1 h2
  exact ⟨e1, rb_place T, e2, po_at_Model_place T h2, po_ok_Model_place T h3, po_ok_Player_nextAddress S h4⟩
theorem q_signed {j : Nat} {S T : gw_S} (h : eQ j S T) : (f_Player_nextNumber S).1 = (f_Model_signed T).1 ∧ eQ j (f_Player_nextNumber S).2 (f_Model_signed T).2 := by
  obtain ⟨h1, h2, h3, h4⟩ := h
  obtain ⟨e1, e2⟩ := e_signed h1 h2
  exact ⟨e1, e2, po_at_Model_signed T h2, po_ok_Model_signed T h3, po_ok_Player_nextNumber S h4⟩
theorem e_fail {j : Nat} {S T : gw_S} {x : Int32} (hj : j < 16) (h : eG j S T) (hx : 0 < x) : eX j (f_Player_fail j S x).2 (f_Model_fails T x).2 := by
  obtain ⟨h1, h2, h3, h4, h5, h6⟩ := h
  show eX j (gw_u (gw_u (gw_u S (j + 14) 4 x) 1 4 (-1 : Int32)) 1 5 (0 : Int32)) (gw_u (gw_u T 0 19 x) 0 20 (0 : Int32))
  have hr : eR (gw_u S (j + 14) 4 x) T := by
    rcases eR_fl (j := j) (x := x) h1 with q | q
    · exact q
    · omega
  refine ⟨eR_1 (eR_1 (eR_0 (eR_0 hr (by omega)) (by omega))), ?_, ?_, ?_, ?_, ?_, ?_, fun k hk hn => ?_⟩
  · rw [gw_un (by omega), gw_un (by omega)]; exact h2
  · rw [gw_un (by omega), gw_us]
  · rw [gw_us]
  · rw [gw_us]
  · rw [gw_un (by omega), gw_us]; exact hx
  · rw [gw_un (by omega), gw_un (by omega), gw_us, gw_un (by omega), gw_us]
  · rw [gw_un (by omega), gw_un (by omega), gw_un (by omega), gw_un (by omega), gw_un (by omega)]; exact h6 k hk
theorem eG_v {j k : Nat} {S T : gw_S} {x : Int32} (h : eG j S T) : eG j (gw_u S 4 k x) (gw_u T 3 k x) := by
  obtain ⟨h1, h2, h3, h4, h5, h6⟩ := h
  refine ⟨eR_m h1 (eL4 k), ?_, ?_, ?_, ?_, fun k hk => ?_⟩
  · rw [gw_un (by omega)]; exact h2
  · rw [gw_un (by omega), gw_un (by omega)]; exact h3
  · rw [gw_un (by omega), gw_un (by omega)]; exact h4
  · rw [gw_un (by omega)]; exact h5
  · rw [gw_un (by omega), gw_un (by omega)]; exact h6 k hk
theorem v_n (S : gw_S) : (f_Player_nextNumber S).2 4 = S 4 := rfl
theorem v_v (S : gw_S) : (f_Player_nextVariable S).2 4 = S 4 := rfl
theorem v_b (S : gw_S) : (f_Player_nextByte S).2 4 = S 4 := rfl
theorem v_a (S : gw_S) : (f_Player_nextAddress S).2 4 = S 4 := rfl
theorem e_reckon {j : Nat} {S T : gw_S} {a : Int32} (h : eQ j S T) (ha : vp_in a 9) : eG j (f_Player_compute S a).2 (f_Model_reckon T a).2 := by
  obtain ⟨n, hn, rfl⟩ := vp_in_of ha (by decide)
  have hm := q_name h
  have hv := eR_f4 hm.2.2.1.1
  match n, hn with
  | 0, _ =>
    have hs := q_signed hm.2.2
    show eG j (gw_u (f_Player_nextNumber (f_Player_nextVariable S).2).2 4 (f_Player_nextVariable S).1.toNatClampNeg ((f_Player_nextNumber (f_Player_nextVariable S).2).1).toInt16.toInt32) (gw_u (f_Model_signed (f_Model_name T).2).2 3 (f_Model_name T).1.toNatClampNeg ((f_Model_signed (f_Model_name T).2).1).toInt16.toInt32)
    rw [hm.1, hs.1]; exact eG_v hs.2.1
  | 1, _ =>
    have hs := q_name hm.2.2
    show eG j (gw_u (f_Player_nextVariable (f_Player_nextVariable S).2).2 4 (f_Player_nextVariable S).1.toNatClampNeg ((f_Player_nextVariable (f_Player_nextVariable S).2).2 4 (f_Player_nextVariable (f_Player_nextVariable S).2).1.toNatClampNeg).toInt16.toInt32) (gw_u (f_Model_name (f_Model_name T).2).2 3 (f_Model_name T).1.toNatClampNeg ((f_Model_name (f_Model_name T).2).2 3 (f_Model_name (f_Model_name T).2).1.toNatClampNeg).toInt16.toInt32)
    rw [hm.1, hs.1, eR_f4 hs.2.2.1.1]; exact eG_v hs.2.2.1
  | 2, _ =>
    have hs := q_name hm.2.2
    show eG j (gw_u (f_Player_nextVariable (f_Player_nextVariable S).2).2 4 (f_Player_nextVariable S).1.toNatClampNeg ((f_Player_nextVariable S).2 4 (f_Player_nextVariable S).1.toNatClampNeg + (f_Player_nextVariable (f_Player_nextVariable S).2).2 4 (f_Player_nextVariable (f_Player_nextVariable S).2).1.toNatClampNeg).toInt16.toInt32) (gw_u (f_Model_name (f_Model_name T).2).2 3 (f_Model_name T).1.toNatClampNeg ((f_Model_name (f_Model_name T).2).2 3 (f_Model_name T).1.toNatClampNeg + (f_Model_name (f_Model_name T).2).2 3 (f_Model_name (f_Model_name T).2).1.toNatClampNeg).toInt16.toInt32)
    rw [← v_v (f_Player_nextVariable S).2, hm.1, hs.1, eR_f4 hs.2.2.1.1]; exact eG_v hs.2.2.1
  | 3, _ =>
    have hs := q_signed hm.2.2
    show eG j (gw_u (f_Player_nextNumber (f_Player_nextVariable S).2).2 4 (f_Player_nextVariable S).1.toNatClampNeg ((f_Player_nextVariable S).2 4 (f_Player_nextVariable S).1.toNatClampNeg + (f_Player_nextNumber (f_Player_nextVariable S).2).1).toInt16.toInt32) (gw_u (f_Model_signed (f_Model_name T).2).2 3 (f_Model_name T).1.toNatClampNeg ((f_Model_signed (f_Model_name T).2).2 3 (f_Model_name T).1.toNatClampNeg + (f_Model_signed (f_Model_name T).2).1).toInt16.toInt32)
    rw [← v_n (f_Player_nextVariable S).2, hm.1, hs.1, eR_f4 hs.2.1.1]; exact eG_v hs.2.1
  | 4, _ =>
    have hs := q_name hm.2.2
    show eG j (gw_u (f_Player_nextVariable (f_Player_nextVariable S).2).2 4 (f_Player_nextVariable S).1.toNatClampNeg ((f_Player_nextVariable S).2 4 (f_Player_nextVariable S).1.toNatClampNeg - (f_Player_nextVariable (f_Player_nextVariable S).2).2 4 (f_Player_nextVariable (f_Player_nextVariable S).2).1.toNatClampNeg).toInt16.toInt32) (gw_u (f_Model_name (f_Model_name T).2).2 3 (f_Model_name T).1.toNatClampNeg ((f_Model_name (f_Model_name T).2).2 3 (f_Model_name T).1.toNatClampNeg - (f_Model_name (f_Model_name T).2).2 3 (f_Model_name (f_Model_name T).2).1.toNatClampNeg).toInt16.toInt32)
    rw [← v_v (f_Player_nextVariable S).2, hm.1, hs.1, eR_f4 hs.2.2.1.1]; exact eG_v hs.2.2.1
  | 5, _ =>
    have hs := q_signed hm.2.2
    show eG j (gw_u (f_Player_nextNumber (f_Player_nextVariable S).2).2 4 (f_Player_nextVariable S).1.toNatClampNeg ((f_Player_nextVariable S).2 4 (f_Player_nextVariable S).1.toNatClampNeg &&& (f_Player_nextNumber (f_Player_nextVariable S).2).1).toInt16.toInt32) (gw_u (f_Model_signed (f_Model_name T).2).2 3 (f_Model_name T).1.toNatClampNeg ((f_Model_signed (f_Model_name T).2).2 3 (f_Model_name T).1.toNatClampNeg &&& (f_Model_signed (f_Model_name T).2).1).toInt16.toInt32)
    rw [← v_n (f_Player_nextVariable S).2, hm.1, hs.1, eR_f4 hs.2.1.1]; exact eG_v hs.2.1
  | 6, _ =>
    have hs := q_signed hm.2.2
    show eG j (gw_u (f_Player_nextNumber (f_Player_nextVariable S).2).2 4 (f_Player_nextVariable S).1.toNatClampNeg ((f_Player_nextVariable S).2 4 (f_Player_nextVariable S).1.toNatClampNeg ||| (f_Player_nextNumber (f_Player_nextVariable S).2).1).toInt16.toInt32) (gw_u (f_Model_signed (f_Model_name T).2).2 3 (f_Model_name T).1.toNatClampNeg ((f_Model_signed (f_Model_name T).2).2 3 (f_Model_name T).1.toNatClampNeg ||| (f_Model_signed (f_Model_name T).2).1).toInt16.toInt32)
    rw [← v_n (f_Player_nextVariable S).2, hm.1, hs.1, eR_f4 hs.2.1.1]; exact eG_v hs.2.1
  | 7, _ =>
    have hs := q_next hm.2.2
    show eG j (gw_u (f_Player_nextByte (f_Player_nextVariable S).2).2 4 (f_Player_nextVariable S).1.toNatClampNeg ((f_Player_nextVariable S).2 4 (f_Player_nextVariable S).1.toNatClampNeg <<< (((f_Player_nextByte (f_Player_nextVariable S).2).1 &&& (15 : Int32)) &&& 31)).toInt16.toInt32) (gw_u (f_Model_next (f_Model_name T).2).2 3 (f_Model_name T).1.toNatClampNeg ((f_Model_next (f_Model_name T).2).2 3 (f_Model_name T).1.toNatClampNeg <<< (((f_Model_next (f_Model_name T).2).1 &&& (15 : Int32)) &&& 31)).toInt16.toInt32)
    rw [← v_b (f_Player_nextVariable S).2, hm.1, hs.1, eR_f4 hs.2.2.1.1]; exact eG_v hs.2.2.1
  | 8, _ =>
    have hs := q_next hm.2.2
    show eG j (gw_u (f_Player_nextByte (f_Player_nextVariable S).2).2 4 (f_Player_nextVariable S).1.toNatClampNeg ((f_Player_nextVariable S).2 4 (f_Player_nextVariable S).1.toNatClampNeg >>> (((f_Player_nextByte (f_Player_nextVariable S).2).1 &&& (15 : Int32)) &&& 31)).toInt16.toInt32) (gw_u (f_Model_next (f_Model_name T).2).2 3 (f_Model_name T).1.toNatClampNeg ((f_Model_next (f_Model_name T).2).2 3 (f_Model_name T).1.toNatClampNeg >>> (((f_Model_next (f_Model_name T).2).1 &&& (15 : Int32)) &&& 31)).toInt16.toInt32)
    rw [← v_b (f_Player_nextVariable S).2, hm.1, hs.1, eR_f4 hs.2.2.1.1]; exact eG_v hs.2.2.1
