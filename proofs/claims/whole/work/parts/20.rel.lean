def eL (a b c d : Nat) : Prop := (a = 3 ∧ c = 1 ∧ d = b) ∨ (a = 8 ∧ c = 2 ∧ d = b) ∨ (a = 4 ∧ c = 3 ∧ d = b) ∨ (a = 10 ∧ c = 4 ∧ d = b) ∨ (a = 9 ∧ b = 1 ∧ c = 0 ∧ d = 4) ∨ (a = 9 ∧ b = 2 ∧ c = 0 ∧ d = 5) ∨ (a = 0 ∧ b = 1 ∧ c = 0 ∧ d = 13) ∨ (a = 6 ∧ b = 7 ∧ c = 0 ∧ d = 15) ∨ (a = 6 ∧ b = 6 ∧ c = 0 ∧ d = 16) ∨ (14 ≤ a ∧ a < 30 ∧ d + 14 = a ∧ ((b = 1 ∧ c = 6) ∨ (b = 2 ∧ c = 5) ∨ (b = 3 ∧ c = 10) ∨ (b = 5 ∧ c = 8) ∨ (b = 6 ∧ c = 9))) ∨ (30 ≤ a ∧ a < 46 ∧ b < 8 ∧ c = 11 ∧ d = 8 * (a - 30) + b)
theorem eL3 (b : Nat) : eL 3 b 1 b := Or.inl ⟨rfl, rfl, rfl⟩
theorem eL8 (b : Nat) : eL 8 b 2 b := Or.inr (Or.inl ⟨rfl, rfl, rfl⟩)
theorem eL4 (b : Nat) : eL 4 b 3 b := Or.inr (Or.inr (Or.inl ⟨rfl, rfl, rfl⟩))
theorem eL10 (b : Nat) : eL 10 b 4 b := Or.inr (Or.inr (Or.inr (Or.inl ⟨rfl, rfl, rfl⟩)))
theorem eL91 : eL 9 1 0 4 := Or.inr (Or.inr (Or.inr (Or.inr (Or.inl ⟨rfl, rfl, rfl, rfl⟩))))
theorem eL92 : eL 9 2 0 5 := Or.inr (Or.inr (Or.inr (Or.inr (Or.inr (Or.inl ⟨rfl, rfl, rfl, rfl⟩)))))
theorem eL01 : eL 0 1 0 13 := Or.inr (Or.inr (Or.inr (Or.inr (Or.inr (Or.inr (Or.inl ⟨rfl, rfl, rfl, rfl⟩))))))
theorem eL67 : eL 6 7 0 15 := Or.inr (Or.inr (Or.inr (Or.inr (Or.inr (Or.inr (Or.inr (Or.inl ⟨rfl, rfl, rfl, rfl⟩)))))))
theorem eL66 : eL 6 6 0 16 := Or.inr (Or.inr (Or.inr (Or.inr (Or.inr (Or.inr (Or.inr (Or.inr (Or.inl ⟨rfl, rfl, rfl, rfl⟩))))))))
theorem eLc {k b c : Nat} (hk : k < 16) (h : (b = 1 ∧ c = 6) ∨ (b = 2 ∧ c = 5) ∨ (b = 3 ∧ c = 10) ∨ (b = 5 ∧ c = 8) ∨ (b = 6 ∧ c = 9)) : eL (k + 14) b c k := Or.inr (Or.inr (Or.inr (Or.inr (Or.inr (Or.inr (Or.inr (Or.inr (Or.inr (Or.inl ⟨by omega, by omega, rfl, h⟩)))))))))
theorem eLp {k j : Nat} (hk : k < 16) (hj : j < 8) : eL (k + 30) j 11 (8 * k + j) := Or.inr (Or.inr (Or.inr (Or.inr (Or.inr (Or.inr (Or.inr (Or.inr (Or.inr (Or.inr ⟨by omega, by omega, hj, rfl, by rw [Nat.add_sub_cancel]⟩)))))))))
def eR (S T : gw_S) : Prop := ∀ a b c d, eL a b c d → S a b = T c d
set_option maxHeartbeats 4000000 in
theorem eL_i {a b c d i k m n : Nat} (h : eL a b c d) (g : eL i k m n) : (a = i ∧ b = k) ↔ (c = m ∧ d = n) := by
  unfold eL at h g
  rcases h with h | h | h | h | h | h | h | h | h | h | h <;> rcases g with g | g | g | g | g | g | g | g | g | g | g <;> omega
theorem eR_m {S T : gw_S} {i k m n : Nat} {x : Int32} (h : eR S T) (g : eL i k m n) : eR (gw_u S i k x) (gw_u T m n x) := by
  intro a b c d hl
  have q := eL_i hl g
  by_cases e : a = i ∧ b = k
  · have e2 := q.mp e
    obtain ⟨rfl, rfl⟩ := e
    obtain ⟨rfl, rfl⟩ := e2
    rw [gw_us, gw_us]
  · rw [gw_un e, gw_un (fun z => e (q.mpr z))]
    exact h a b c d hl
theorem eR_s {S T : gw_S} {i k : Nat} {x : Int32} (h : eR S T) (g : ∀ m n, ¬ eL i k m n) : eR (gw_u S i k x) T := by
  intro a b c d hl
  rw [gw_un (fun z => by obtain ⟨rfl, rfl⟩ := z; exact g c d hl)]
  exact h a b c d hl
theorem eR_t {S T : gw_S} {m n : Nat} {x : Int32} (h : eR S T) (g : ∀ i k, ¬ eL i k m n) : eR S (gw_u T m n x) := by
  intro a b c d hl
  rw [gw_un (fun z => by obtain ⟨rfl, rfl⟩ := z; exact g a b hl)]
  exact h a b c d hl
theorem eR_1 {S T : gw_S} {k : Nat} {x : Int32} (h : eR S T) : eR (gw_u S 1 k x) T := eR_s h (fun m n q => by unfold eL at q; rcases q with q | q | q | q | q | q | q | q | q | q | q <;> omega)
theorem eR_0 {S T : gw_S} {k : Nat} {x : Int32} (h : eR S T) (hk : k ≠ 4 ∧ k ≠ 5 ∧ k ≠ 13 ∧ k ≠ 15 ∧ k ≠ 16) : eR S (gw_u T 0 k x) := eR_t h (fun i l q => by unfold eL at q; rcases q with q | q | q | q | q | q | q | q | q | q | q <;> omega)
theorem eR_x {S T : gw_S} {i k : Nat} {x : Int32} (h : eR S T) (hi : i = 7 ∨ 12 ≤ i) : eR S (gw_u T i k x) := eR_t h (fun a b q => by unfold eL at q; rcases q with q | q | q | q | q | q | q | q | q | q | q <;> omega)
theorem eR_y {S T : gw_S} {i k : Nat} {x : Int32} (h : eR S T) (hi : i = 11 ∨ i = 12 ∨ i = 13 ∨ (i = 6 ∧ k = 5) ∨ (i = 0 ∧ k = 2)) : eR (gw_u S i k x) T := eR_s h (fun a b q => by unfold eL at q; rcases q with q | q | q | q | q | q | q | q | q | q | q <;> omega)
theorem eR_fl {S T : gw_S} {j : Nat} {x : Int32} (h : eR S T) : eR (gw_u S (j + 14) 4 x) T ∨ 16 ≤ j := by
  rcases Nat.lt_or_ge j 16 with q | q
  · exact Or.inl (eR_s h (fun m n q => by unfold eL at q; rcases q with q | q | q | q | q | q | q | q | q | q | q <;> omega))
  · exact Or.inr q
theorem eR_f3 {S T : gw_S} (h : eR S T) : S 3 = T 1 := funext fun b => h 3 b 1 b (eL3 b)
theorem eR_f8 {S T : gw_S} (h : eR S T) : S 8 = T 2 := funext fun b => h 8 b 2 b (eL8 b)
theorem eR_f4 {S T : gw_S} (h : eR S T) : S 4 = T 3 := funext fun b => h 4 b 3 b (eL4 b)
theorem eR_f10 {S T : gw_S} (h : eR S T) : S 10 = T 4 := funext fun b => h 10 b 4 b (eL10 b)
theorem eR_g {S T : gw_S} {a b c d : Nat} (h : eR S T) (g : eL a b c d) : S a b = T c d := h a b c d g
def eG (j : Nat) (S T : gw_S) : Prop := eR S T ∧ T 0 17 = nI j ∧ S 1 4 = T 0 18 ∧ S 1 5 = T 0 20 ∧ T 0 19 = 0 ∧ ∀ k, k < 16 → S (k + 14) 4 = T 7 k
def eX (j : Nat) (S T : gw_S) : Prop := eR S T ∧ T 0 17 = nI j ∧ S 1 4 = (-1 : Int32) ∧ S 1 5 = 0 ∧ T 0 20 = 0 ∧ 0 < T 0 19 ∧ S (j + 14) 4 = T 0 19 ∧ ∀ k, k < 16 → k ≠ j → S (k + 14) 4 = T 7 k
theorem eA {x : Int32} (h : vp_in x 1024) : x &&& (1023 : Int32) = x := by
  obtain ⟨n, hn, rfl⟩ := vp_in_of h (by decide)
  rw [pk_andN (by omega) (m := 1023) 10 (by decide), Nat.mod_eq_of_lt (by omega)]
theorem eG_at {j : Nat} {S T : gw_S} {x : Int32} (h : eG j S T) : eG j (gw_u S 1 4 x) (gw_u T 0 18 x) := by
  obtain ⟨h1, h2, h3, h4, h5, h6⟩ := h
  refine ⟨eR_1 (eR_0 h1 (by omega)), ?_, ?_, ?_, ?_, fun k hk => ?_⟩
  · rw [gw_un (by omega)]; exact h2
  · rw [gw_us, gw_us]
  · rw [gw_un (by omega), gw_un (by omega)]; exact h4
  · rw [gw_un (by omega)]; exact h5
  · rw [gw_un (by omega), gw_un (by omega)]; exact h6 k hk
theorem u_nextByte (S : gw_S) : f_Player_nextByte S = (S 3 (S 1 4 &&& (1023 : Int32)).toNatClampNeg, gw_u S 1 4 ((S 1 4 + (1 : Int32)) &&& (1023 : Int32))) := rfl
theorem u_next (T : gw_S) : f_Model_next T = (T 1 (T 0 18).toNatClampNeg, gw_u T 0 18 ((T 0 18 + (1 : Int32)) &&& (1023 : Int32))) := rfl
theorem u_nextPair (S : gw_S) : f_Player_nextPair S = ((S 3 (S 1 4 &&& (1023 : Int32)).toNatClampNeg <<< ((8 : Int32) &&& 31)) ||| S 3 ((S 1 4 + (1 : Int32)) &&& (1023 : Int32)).toNatClampNeg, gw_u S 1 4 ((S 1 4 + (2 : Int32)) &&& (1023 : Int32))) := rfl
theorem e_next {j : Nat} {S T : gw_S} (h : eG j S T) (ha : vp_in (T 0 18) 1024) : (f_Player_nextByte S).1 = (f_Model_next T).1 ∧ eG j (f_Player_nextByte S).2 (f_Model_next T).2 := by
  rw [u_nextByte, u_next]
  refine ⟨?_, ?_⟩
  · show S 3 _ = T 1 _
    rw [eR_f3 h.1, h.2.2.1, eA ha]
  · show eG j (gw_u S 1 4 _) (gw_u T 0 18 _)
    rw [h.2.2.1]; exact eG_at h
theorem eU {S : gw_S} {i k : Nat} {x y : Int32} : gw_u (gw_u S i k x) i k y = gw_u S i k y := by
  funext a b
  by_cases q : a = i ∧ b = k
  · obtain ⟨rfl, rfl⟩ := q
    rw [gw_us, gw_us]
  · rw [gw_un q, gw_un q, gw_un q]
theorem eB {x : Int32} (h : vp_in x 1024) : (((x + (1 : Int32)) &&& (1023 : Int32)) + (1 : Int32)) &&& (1023 : Int32) = (x + (2 : Int32)) &&& (1023 : Int32) := by
  obtain ⟨n, hn, rfl⟩ := vp_in_of h (by decide)
  rw [nI_1, pk_andN (by omega) (m := 1023) 10 (by decide), nI_1, pk_andN (by omega) (m := 1023) 10 (by decide), show (2 : Int32) = nI 2 from rfl, nI_add, pk_andN (by omega) (m := 1023) 10 (by decide)]
  congr 1
  omega
theorem e_two {j : Nat} {S T : gw_S} (h : eG j S T) (ha : vp_in (T 0 18) 1024) : (f_Player_nextPair S).1 = (f_Model_two T).1 ∧ eG j (f_Player_nextPair S).2 (f_Model_two T).2 := by
  have u : f_Model_two T = ((T 1 (T 0 18).toNatClampNeg <<< ((8 : Int32) &&& 31)) ||| (gw_u T 0 18 ((T 0 18 + (1 : Int32)) &&& (1023 : Int32))) 1 ((gw_u T 0 18 ((T 0 18 + (1 : Int32)) &&& (1023 : Int32))) 0 18).toNatClampNeg, gw_u (gw_u T 0 18 ((T 0 18 + (1 : Int32)) &&& (1023 : Int32))) 0 18 (((gw_u T 0 18 ((T 0 18 + (1 : Int32)) &&& (1023 : Int32))) 0 18 + (1 : Int32)) &&& (1023 : Int32))) := rfl
  rw [u_nextPair, u, gw_us, gw_un (a := 1) (by omega), eU, eB ha]
  refine ⟨?_, ?_⟩
  · show _ ||| _ = _ ||| _
    rw [eR_f3 h.1, h.2.2.1, eA ha]
  · show eG j (gw_u S 1 4 _) (gw_u T 0 18 _)
    rw [h.2.2.1]; exact eG_at h
theorem e_name {j : Nat} {S T : gw_S} (h : eG j S T) (ha : vp_in (T 0 18) 1024) : (f_Player_nextVariable S).1 = (f_Model_name T).1 ∧ eG j (f_Player_nextVariable S).2 (f_Model_name T).2 := by
  obtain ⟨h1, h2⟩ := e_next h ha
  refine ⟨?_, h2⟩
  show (f_Player_nextByte S).1 &&& _ = (f_Model_next T).1 &&& _
  rw [h1]
theorem e_place {j : Nat} {S T : gw_S} (h : eG j S T) (ha : vp_in (T 0 18) 1024) : (f_Player_nextAddress S).1 = (f_Model_place T).1 ∧ eG j (f_Player_nextAddress S).2 (f_Model_place T).2 := by
  obtain ⟨h1, h2⟩ := e_two h ha
  refine ⟨?_, h2⟩
  show (f_Player_nextPair S).1 &&& _ = (f_Model_two T).1 &&& _
  rw [h1]
theorem e_signed {j : Nat} {S T : gw_S} (h : eG j S T) (ha : vp_in (T 0 18) 1024) : (f_Player_nextNumber S).1 = (f_Model_signed T).1 ∧ eG j (f_Player_nextNumber S).2 (f_Model_signed T).2 := by
  obtain ⟨h1, h2⟩ := e_two h ha
  refine ⟨?_, h2⟩
  show (f_Player_nextPair S).1.toInt16.toInt32 = (f_Model_two T).1.toInt16.toInt32
  rw [h1]
theorem e_page {j : Nat} {S T : gw_S} (h : eG j S T) (ha : vp_in (T 0 18) 1024) : (f_Pages_pageOf (f_Player_nextByte S).2 (f_Player_nextByte S).1).1 = (f_Model_page T).1 ∧ eG j (f_Pages_pageOf (f_Player_nextByte S).2 (f_Player_nextByte S).1).2 (f_Model_page T).2 := by
  obtain ⟨h1, h2⟩ := e_next h ha
  have u : f_Model_page T = (if (128 : Int32) ≤ (f_Model_next T).1 then (if (f_Model_next T).1 = (254 : Int32) then ((f_Model_next T).2 0 5, (f_Model_next T).2) else ((f_Model_next T).2 0 4, (f_Model_next T).2)) else ((f_Model_next T).1 &&& (3 : Int32), (f_Model_next T).2)) := rfl
  rw [u]
  unfold f_Pages_pageOf
  rw [h1]
  have e1 := eR_g h2.1 eL91
  have e2 := eR_g h2.1 eL92
  by_cases c1 : (128 : Int32) ≤ (f_Model_next T).1
  · by_cases c2 : (f_Model_next T).1 = (254 : Int32)
    · rw [if_pos c1, if_pos c2, if_pos c1, if_pos c2]; exact ⟨e2, h2⟩
    · rw [if_pos c1, if_neg c2, if_pos c1, if_neg c2]; exact ⟨e1, h2⟩
  · rw [if_neg c1, if_neg c1]; exact ⟨rfl, h2⟩
