def eW (S T : gw_S) : Prop := eR S T ∧ (∀ k, k < 16 → S (k + 14) 4 = T 7 k) ∧ S 0 2 = T 0 14 ∧ rOK T ∧ cOK S
theorem eU7 {T : gw_S} {i k : Nat} : gw_u T i k (T i k) = T := by
  funext a b
  by_cases q : a = i ∧ b = k
  · obtain ⟨rfl, rfl⟩ := q
    rw [gw_us]
  · rw [gw_un q]
theorem eR_c2 {k : Nat} {S T : gw_S} {x : Int32} (hk : k < 16) (h : eR S T) : eR (gw_u S (k + 14) 2 x) (gw_u T 5 k x) := eR_m h (eLc hk (by omega))
def eP (S T : gw_S) : Prop := eR S T ∧ ∀ k, k < 16 → S (k + 14) 4 = T 7 k
theorem e_exit {j : Nat} {S T : gw_S} {x : Int32} (hj : j < 16) (h : eZ j S T) : eP (gw_u S (j + 14) 2 (S 1 4)) (if (T 0 19) ≤ 0 then (gw_n (gw_u T 5 (nI j : Int32).toNatClampNeg (T 0 18)) fun S69 => if (S69 0 19) ≤ 0 then (gw_n (gw_u S69 7 (nI j : Int32).toNatClampNeg (S69 7 (nI j : Int32).toNatClampNeg)) fun S95 => ((), S95)) else (gw_n (gw_u S69 7 (nI j : Int32).toNatClampNeg (S69 0 19)) fun S95 => ((), S95))) else (gw_n (gw_u T 5 (nI j : Int32).toNatClampNeg (-1 : Int32)) fun S69 => if (S69 0 19) ≤ 0 then (gw_n (gw_u S69 7 (nI j : Int32).toNatClampNeg (S69 7 (nI j : Int32).toNatClampNeg)) fun S95 => ((), S95)) else (gw_n (gw_u S69 7 (nI j : Int32).toNatClampNeg (S69 0 19)) fun S95 => ((), S95))) : Unit × gw_S).2 ∧ (if (T 0 19) ≤ 0 then (gw_n (gw_u T 5 (nI j : Int32).toNatClampNeg (T 0 18)) fun S69 => if (S69 0 19) ≤ 0 then (gw_n (gw_u S69 7 (nI j : Int32).toNatClampNeg (S69 7 (nI j : Int32).toNatClampNeg)) fun S95 => ((), S95)) else (gw_n (gw_u S69 7 (nI j : Int32).toNatClampNeg (S69 0 19)) fun S95 => ((), S95))) else (gw_n (gw_u T 5 (nI j : Int32).toNatClampNeg (-1 : Int32)) fun S69 => if (S69 0 19) ≤ 0 then (gw_n (gw_u S69 7 (nI j : Int32).toNatClampNeg (S69 7 (nI j : Int32).toNatClampNeg)) fun S95 => ((), S95)) else (gw_n (gw_u S69 7 (nI j : Int32).toNatClampNeg (S69 0 19)) fun S95 => ((), S95))) : Unit × gw_S).2 0 14 = T 0 14 := by
  rw [e_cl hj]
  unfold gw_n
  dsimp only
  rcases h with h | h
  · obtain ⟨h1, h2, h3, h4, h5, h6⟩ := h
    rw [if_pos (by rw [h5]; decide), gw_un (a := 0) (by omega), if_pos (by rw [h5]; decide), eU7, h3]
    refine ⟨⟨eR_c2 hj h1, fun k hk => ?_⟩, ?_⟩
    · dsimp only; rw [gw_un (by omega), gw_un (by omega)]; exact h6 k hk
    · show gw_u T 5 j (T 0 18) 0 14 = _
      rw [gw_un (by omega)]
  · obtain ⟨h1, h2, h3, h4, h4b, h5, h6, h7⟩ := h
    have hn : ¬ T 0 19 ≤ 0 := by
      rw [Int32.lt_iff_toInt_lt, Int32.toInt_zero] at h5
      rw [Int32.le_iff_toInt_le, Int32.toInt_zero]
      omega
    rw [if_neg hn, gw_un (a := 0) (by omega), if_neg hn, h3]
    refine ⟨⟨eR_x (eR_c2 hj h1) (by omega), fun k hk => ?_⟩, ?_⟩
    · dsimp only
      rw [gw_un (by omega)]
      by_cases c : k = j
      · subst c; rw [gw_us]; exact h6
      · rw [gw_un (by omega), gw_un (by omega)]; exact h7 k hk c
    · show gw_u (gw_u T 5 j (-1 : Int32)) 7 j (T 0 19) 0 14 = _
      rw [gw_un (by omega), gw_un (by omega)]
theorem e_turn27_open (hD : ∀ (j : Nat) (S T : gw_S), eQ j S T → eG j (f_Player_draw S).2 (f_Model_draw T).2) {j : Nat} (hj : j < 16) {cap : Int32} : ∀ (n : Nat) (S T : gw_S) (x y : Int32), 0 < n → cap.toInt - x.toInt < (n : Int) → eZ j S T → (¬ T 0 20 = 0 → vp_in (T 0 18) 1024) → rOK T → cOK S → eP (fl_Player_takeTurn_18 j cap n S y x).2 (fl_Model_turn_27 (nI j) cap n T x).2 ∧ (fl_Model_turn_27 (nI j) cap n T x).2 0 14 = T 0 14 + ((fl_Player_takeTurn_18 j cap n S y x).1 - y) := by
  intro n
  induction n with
  | zero => intro S T x y h0; exact absurd h0 (Nat.lt_irrefl 0)
  | succ n ih =>
    intro S T x y _ hf hz hon hrok hcok
    have hex := e_exit (x := x) hj hz
    have hy : y - y = (0 : Int32) := Int32.sub_self y
    by_cases c : cap ≤ x
    · have u1 : fl_Player_takeTurn_18 j cap (n + 1) S y x = (y, gw_u S (j + 14) 2 (S 1 4)) := if_pos c
      have u2 : fl_Model_turn_27 (nI j) cap (n + 1) T x = (if (T 0 19) ≤ 0 then (gw_n (gw_u T 5 (nI j : Int32).toNatClampNeg (T 0 18)) fun S69 => if (S69 0 19) ≤ 0 then (gw_n (gw_u S69 7 (nI j : Int32).toNatClampNeg (S69 7 (nI j : Int32).toNatClampNeg)) fun S95 => ((), S95)) else (gw_n (gw_u S69 7 (nI j : Int32).toNatClampNeg (S69 0 19)) fun S95 => ((), S95))) else (gw_n (gw_u T 5 (nI j : Int32).toNatClampNeg (-1 : Int32)) fun S69 => if (S69 0 19) ≤ 0 then (gw_n (gw_u S69 7 (nI j : Int32).toNatClampNeg (S69 7 (nI j : Int32).toNatClampNeg)) fun S95 => ((), S95)) else (gw_n (gw_u S69 7 (nI j : Int32).toNatClampNeg (S69 0 19)) fun S95 => ((), S95)))) := if_pos c
      rw [u1, u2]
      refine ⟨hex.1, ?_⟩
      rw [hex.2, hy, Int32.add_zero]
    · have hon2 : S 1 5 = T 0 20 := by
        rcases hz with q | q
        · exact q.2.2.2.1
        · rw [q.2.2.2.1, q.2.2.2.2.1]
      by_cases c2 : T 0 20 = 0
      · have u1 : fl_Player_takeTurn_18 j cap (n + 1) S y x = (y, gw_u S (j + 14) 2 (S 1 4)) := (if_neg c).trans (if_pos (hon2.trans c2))
        have u2 : fl_Model_turn_27 (nI j) cap (n + 1) T x = (if (T 0 19) ≤ 0 then (gw_n (gw_u T 5 (nI j : Int32).toNatClampNeg (T 0 18)) fun S69 => if (S69 0 19) ≤ 0 then (gw_n (gw_u S69 7 (nI j : Int32).toNatClampNeg (S69 7 (nI j : Int32).toNatClampNeg)) fun S95 => ((), S95)) else (gw_n (gw_u S69 7 (nI j : Int32).toNatClampNeg (S69 0 19)) fun S95 => ((), S95))) else (gw_n (gw_u T 5 (nI j : Int32).toNatClampNeg (-1 : Int32)) fun S69 => if (S69 0 19) ≤ 0 then (gw_n (gw_u S69 7 (nI j : Int32).toNatClampNeg (S69 7 (nI j : Int32).toNatClampNeg)) fun S95 => ((), S95)) else (gw_n (gw_u S69 7 (nI j : Int32).toNatClampNeg (S69 0 19)) fun S95 => ((), S95)))) := (if_neg c).trans (if_pos c2)
        rw [u1, u2]
        refine ⟨hex.1, ?_⟩
        rw [hex.2, hy, Int32.add_zero]
      · have hg : eG j S T := by
          rcases hz with q | q
          · exact q
          · exact absurd q.2.2.2.2.1 c2
        have hat := hon c2
        have u1 : fl_Player_takeTurn_18 j cap (n + 1) S y x = fl_Player_takeTurn_18 j cap n (f_Player_doInstruction j S).2 (y + (1 : Int32)) (x + (1 : Int32)) := (if_neg c).trans (if_neg (fun q => c2 (hon2.symm.trans q)))
        have u2 : fl_Model_turn_27 (nI j) cap (n + 1) T x = fl_Model_turn_27 (nI j) cap n (f_Model_instruct T).2 (x + (1 : Int32)) := (if_neg c).trans (if_neg c2)
        have hst := gw_stp c hf
        obtain ⟨r1, r2⟩ := ih (f_Player_doInstruction j S).2 (f_Model_instruct T).2 (x + (1 : Int32)) (y + (1 : Int32)) hst.1 hst.2.1 (e_instruct_open hD hj ⟨hg, hat, hrok, hcok⟩) (po_on_Model_instruct T hat hrok) (po_ok_Model_instruct T hat hrok) (po_ok_Player_doInstruction hj S hcok)
        rw [u1, u2]
        refine ⟨r1, ?_⟩
        rw [r2, po_dn_Model_instruct T hat hrok, Int32.add_assoc]
        congr 1
        generalize (fl_Player_takeTurn_18 j cap n (f_Player_doInstruction j S).2 (y + (1 : Int32)) (x + (1 : Int32))).1 = w
        apply Int32.toBitVec_inj.mp
        simp only [Int32.toBitVec_add, Int32.toBitVec_sub]
        have : ∀ a b : BitVec 32, 1#32 + (a - (b + 1#32)) = a - b := by intro a b; bv_omega
        exact this _ _
theorem e_turn_open (hD : ∀ (j : Nat) (S T : gw_S), eQ j S T → eG j (f_Player_draw S).2 (f_Model_draw T).2) {j : Nat} (hj : j < 16) {cap : Int32} {S T : gw_S} (h : eP S T) (hrok : rOK T) (hcok : cOK S) (ha : ¬ T 5 j = (-1 : Int32)) : eP (f_Player_takeTurn j S cap).2 (f_Model_turn T (nI j) cap).2 ∧ (f_Model_turn T (nI j) cap).2 0 14 = T 0 14 + (f_Player_takeTurn j S cap).1 := by
  have hadr : S (j + 14) 2 = T 5 j := eR_g h.1 (eLc hj (by omega))
  have u2 : f_Model_turn T (nI j) cap = fl_Model_turn_27 (nI j) cap (gw_fu (cap.toInt - ((0 : Int32) : Int32).toInt)) (gw_u (gw_u (gw_u (gw_u T 0 17 (nI j)) 0 18 ((gw_u T 0 17 (nI j)) 5 (nI j).toNatClampNeg)) 0 19 (0 : Int32)) 0 20 (1 : Int32)) (0 : Int32) := rfl
  have u1 : f_Player_takeTurn j S cap = fl_Player_takeTurn_18 j cap (gw_fu (cap.toInt - ((0 : Int32) : Int32).toInt)) (gw_u (gw_u S 1 4 (S (j + 14) 2)) 1 5 (1 : Int32)) (0 : Int32) (0 : Int32) := rfl
  rw [u1, u2, gw_un (a := 5) (by omega), e_cl hj, hadr]
  have hin : vp_in (T 5 j) 1024 := rAt_ad ((hrok 5 j).2.2.2.2.2.1 rfl) ha
  have hg : eG j (gw_u (gw_u S 1 4 (T 5 j)) 1 5 (1 : Int32)) (gw_u (gw_u (gw_u (gw_u T 0 17 (nI j)) 0 18 (T 5 j)) 0 19 (0 : Int32)) 0 20 (1 : Int32)) := by
    refine ⟨eR_1 (eR_1 (eR_0 (eR_0 (eR_0 (eR_0 h.1 (by omega)) (by omega)) (by omega)) (by omega))), ?_, ?_, ?_, ?_, fun k hk => ?_⟩
    · rw [gw_un (by omega), gw_un (by omega), gw_un (by omega), gw_us]
    · rw [gw_un (by omega), gw_us, gw_un (by omega), gw_un (by omega), gw_us]
    · rw [gw_us, gw_us]
    · rw [gw_un (by omega), gw_us]
    · rw [gw_un (by omega), gw_un (by omega), gw_un (by omega), gw_un (by omega), gw_un (by omega), gw_un (by omega)]; exact h.2 k hk
  have hf := gw_fu_lt (cap.toInt - ((0 : Int32) : Int32).toInt)
  have hr4 : rOK (gw_u (gw_u (gw_u (gw_u T 0 17 (nI j)) 0 18 (T 5 j)) 0 19 (0 : Int32)) 0 20 (1 : Int32)) := rOK_f rfl (rOK_f rfl (rOK_f rfl (rOK_who rfl hrok (vp_in_nI hj (by decide))) (by omega)) (by omega)) (by omega)
  have hc4 : cOK (gw_u (gw_u S 1 4 (T 5 j)) 1 5 (1 : Int32)) := cOK_o rfl (cOK_o rfl hcok (by omega)) (by omega)
  have hon4 : ¬ (gw_u (gw_u (gw_u (gw_u T 0 17 (nI j)) 0 18 (T 5 j)) 0 19 (0 : Int32)) 0 20 (1 : Int32)) 0 20 = 0 → vp_in ((gw_u (gw_u (gw_u (gw_u T 0 17 (nI j)) 0 18 (T 5 j)) 0 19 (0 : Int32)) 0 20 (1 : Int32)) 0 18) 1024 := by
    intro _
    rw [gw_un (by omega), gw_un (by omega), gw_us]; exact hin
  obtain ⟨r1, r2⟩ := e_turn27_open hD hj (cap := cap) (gw_fu (cap.toInt - ((0 : Int32) : Int32).toInt)) _ _ (0 : Int32) (0 : Int32) (gw_fu_pos _) hf (Or.inl hg) hon4 hr4 hc4
  refine ⟨r1, ?_⟩
  rw [r2, gw_un (by omega), gw_un (by omega), gw_un (by omega), gw_un (by omega), Int32.sub_zero]
