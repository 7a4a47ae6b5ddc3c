theorem eQ_done {j : Nat} {S T : gw_S} {x : Int32} (h : eQ j S T) : eQ j S (gw_u T 0 14 x) := by
  obtain ⟨⟨h1, h2, h3, h4, h5, h6⟩, h7, h8, h9⟩ := h
  refine ⟨⟨eR_0 h1 (by omega), ?_, ?_, ?_, ?_, fun q hq => ?_⟩, ?_, rOK_f rfl h8 (by omega), h9⟩
  · rw [gw_un (by omega)]; exact h2
  · rw [gw_un (by omega)]; exact h3
  · rw [gw_un (by omega)]; exact h4
  · rw [gw_un (by omega)]; exact h5
  · rw [gw_un (by omega)]; exact h6 q hq
  · rw [gw_un (by omega)]; exact h7
theorem e_hp (S : gw_S) (a : Int32) : f_Player_handlePages S a = gw_b (f_Player_nextByte S) fun r10 S10 => gw_b (f_Pages_pageOf S10 r10) fun r13 S13 => (if a = 18 then (gw_n (gw_u S13 9 1 r13) fun S46 => ((), S46)) else (if a = 19 then (gw_b (f_Player_nextByte S13) fun r55 S55 => gw_b (f_Pages_fill S55 r13 (r55 &&& (15 : Int32))) fun _ S61 => ((), S61)) else (if a = 20 then (gw_b (f_Player_nextByte S13) fun r71 S71 => gw_b (f_Pages_pageOf S71 r71) fun r74 S74 => gw_b (f_Pages_copy S74 r13 r74) fun _ S77 => ((), S77)) else (gw_n (gw_u S13 9 2 r13) fun S85 => ((), S85))))) := rfl
theorem e_instruct_open (hD : ∀ (j : Nat) (S T : gw_S), eQ j S T → eG j (f_Player_draw S).2 (f_Model_draw T).2) {j : Nat} {S T : gw_S} (hj : j < 16) (h : eQ j S T) : eZ j (f_Player_doInstruction j S).2 (f_Model_instruct T).2 := by
  unfold f_Player_doInstruction f_Model_instruct
  refine e_b (Ψ := fun p q : Unit × gw_S => eZ j p.2 q.2) (P := fun r U V => vp_in r 256 ∧ eQ j U V) (q_next h) (fun r U V p => ?_)
  obtain ⟨pr, pq⟩ := p
  obtain ⟨n, hn, rfl⟩ := vp_in_of pr (by decide)
  have hq : eQ j U (gw_u V 0 14 ((V 0 14) + (1 : Int32))) := eQ_done pq
  generalize gw_u V 0 14 ((V 0 14) + (1 : Int32)) = V2 at hq ⊢
  unfold gw_n
  dsimp only
  by_cases c8 : n ≤ 8
  · rw [if_neg (show ¬ (8 : Int32) < nI n from nI_nlt (b := n) (a := 8) c8 (by omega))]
    rw [if_neg (show ¬ nI n = (9 : Int32) from fun q => absurd ((nI_eq (a := n) (b := 9) (by omega) (by omega)).mp q) (by omega)), if_neg (show ¬ nI n = (10 : Int32) from fun q => absurd ((nI_eq (a := n) (b := 10) (by omega) (by omega)).mp q) (by omega)), if_neg (show ¬ nI n = (11 : Int32) from fun q => absurd ((nI_eq (a := n) (b := 11) (by omega) (by omega)).mp q) (by omega)), if_neg (show ¬ nI n = (12 : Int32) from fun q => absurd ((nI_eq (a := n) (b := 12) (by omega) (by omega)).mp q) (by omega)), if_neg (show ¬ nI n = (13 : Int32) from fun q => absurd ((nI_eq (a := n) (b := 13) (by omega) (by omega)).mp q) (by omega)), if_neg (show ¬ nI n = (14 : Int32) from fun q => absurd ((nI_eq (a := n) (b := 14) (by omega) (by omega)).mp q) (by omega)), if_neg (show ¬ nI n = (15 : Int32) from fun q => absurd ((nI_eq (a := n) (b := 15) (by omega) (by omega)).mp q) (by omega)), if_neg (show ¬ nI n = (16 : Int32) from fun q => absurd ((nI_eq (a := n) (b := 16) (by omega) (by omega)).mp q) (by omega)), if_neg (show ¬ nI n = (17 : Int32) from fun q => absurd ((nI_eq (a := n) (b := 17) (by omega) (by omega)).mp q) (by omega)), if_neg (show ¬ nI n = (18 : Int32) from fun q => absurd ((nI_eq (a := n) (b := 18) (by omega) (by omega)).mp q) (by omega)), if_neg (show ¬ nI n = (19 : Int32) from fun q => absurd ((nI_eq (a := n) (b := 19) (by omega) (by omega)).mp q) (by omega)), if_neg (show ¬ nI n = (20 : Int32) from fun q => absurd ((nI_eq (a := n) (b := 20) (by omega) (by omega)).mp q) (by omega)), if_neg (show ¬ nI n = (21 : Int32) from fun q => absurd ((nI_eq (a := n) (b := 21) (by omega) (by omega)).mp q) (by omega)), if_neg (show ¬ nI n = (22 : Int32) from fun q => absurd ((nI_eq (a := n) (b := 22) (by omega) (by omega)).mp q) (by omega)), if_neg (show ¬ (9 : Int32) ≤ nI n from nI_ge (b := 9) (by omega) (by omega))]
    exact Or.inl (e_reckon hq (vp_in_nI (by omega) (by omega)))
  rw [if_pos (show (8 : Int32) < nI n from nI_lt (a := 8) (by omega) (by omega))]
  by_cases c23 : 23 ≤ n
  · rw [if_neg (show ¬ nI n = (9 : Int32) from fun q => absurd ((nI_eq (a := n) (b := 9) (by omega) (by omega)).mp q) (by omega)), if_neg (show ¬ nI n = (10 : Int32) from fun q => absurd ((nI_eq (a := n) (b := 10) (by omega) (by omega)).mp q) (by omega)), if_neg (show ¬ nI n = (11 : Int32) from fun q => absurd ((nI_eq (a := n) (b := 11) (by omega) (by omega)).mp q) (by omega)), if_neg (show ¬ nI n = (12 : Int32) from fun q => absurd ((nI_eq (a := n) (b := 12) (by omega) (by omega)).mp q) (by omega)), if_neg (show ¬ nI n = (13 : Int32) from fun q => absurd ((nI_eq (a := n) (b := 13) (by omega) (by omega)).mp q) (by omega)), if_neg (show ¬ nI n = (14 : Int32) from fun q => absurd ((nI_eq (a := n) (b := 14) (by omega) (by omega)).mp q) (by omega)), if_neg (show ¬ nI n = (15 : Int32) from fun q => absurd ((nI_eq (a := n) (b := 15) (by omega) (by omega)).mp q) (by omega)), if_neg (show ¬ nI n = (16 : Int32) from fun q => absurd ((nI_eq (a := n) (b := 16) (by omega) (by omega)).mp q) (by omega)), if_neg (show ¬ nI n = (17 : Int32) from fun q => absurd ((nI_eq (a := n) (b := 17) (by omega) (by omega)).mp q) (by omega)), if_neg (show ¬ nI n = (18 : Int32) from fun q => absurd ((nI_eq (a := n) (b := 18) (by omega) (by omega)).mp q) (by omega)), if_neg (show ¬ nI n = (19 : Int32) from fun q => absurd ((nI_eq (a := n) (b := 19) (by omega) (by omega)).mp q) (by omega)), if_neg (show ¬ nI n = (20 : Int32) from fun q => absurd ((nI_eq (a := n) (b := 20) (by omega) (by omega)).mp q) (by omega)), if_neg (show ¬ nI n = (21 : Int32) from fun q => absurd ((nI_eq (a := n) (b := 21) (by omega) (by omega)).mp q) (by omega)), if_neg (show ¬ nI n = (22 : Int32) from fun q => absurd ((nI_eq (a := n) (b := 22) (by omega) (by omega)).mp q) (by omega)), if_neg (show ¬ nI n = (9 : Int32) from fun q => absurd ((nI_eq (a := n) (b := 9) (by omega) (by omega)).mp q) (by omega)), if_neg (show ¬ nI n = (10 : Int32) from fun q => absurd ((nI_eq (a := n) (b := 10) (by omega) (by omega)).mp q) (by omega)), if_neg (show ¬ nI n = (11 : Int32) from fun q => absurd ((nI_eq (a := n) (b := 11) (by omega) (by omega)).mp q) (by omega)), if_neg (show ¬ nI n = (12 : Int32) from fun q => absurd ((nI_eq (a := n) (b := 12) (by omega) (by omega)).mp q) (by omega)), if_neg (show ¬ nI n = (13 : Int32) from fun q => absurd ((nI_eq (a := n) (b := 13) (by omega) (by omega)).mp q) (by omega)), if_neg (show ¬ nI n = (14 : Int32) from fun q => absurd ((nI_eq (a := n) (b := 14) (by omega) (by omega)).mp q) (by omega)), if_neg (show ¬ nI n = (15 : Int32) from fun q => absurd ((nI_eq (a := n) (b := 15) (by omega) (by omega)).mp q) (by omega)), if_neg (show ¬ nI n = (16 : Int32) from fun q => absurd ((nI_eq (a := n) (b := 16) (by omega) (by omega)).mp q) (by omega)), if_neg (show ¬ nI n = (17 : Int32) from fun q => absurd ((nI_eq (a := n) (b := 17) (by omega) (by omega)).mp q) (by omega)), if_neg (show ¬ nI n = (18 : Int32) from fun q => absurd ((nI_eq (a := n) (b := 18) (by omega) (by omega)).mp q) (by omega)), if_neg (show ¬ nI n = (19 : Int32) from fun q => absurd ((nI_eq (a := n) (b := 19) (by omega) (by omega)).mp q) (by omega)), if_neg (show ¬ nI n = (20 : Int32) from fun q => absurd ((nI_eq (a := n) (b := 20) (by omega) (by omega)).mp q) (by omega)), if_neg (show ¬ nI n = (21 : Int32) from fun q => absurd ((nI_eq (a := n) (b := 21) (by omega) (by omega)).mp q) (by omega)), if_neg (show ¬ nI n = (22 : Int32) from fun q => absurd ((nI_eq (a := n) (b := 22) (by omega) (by omega)).mp q) (by omega)), if_pos (show (9 : Int32) ≤ nI n from nI_le (a := 9) (by omega) (by omega))]
    exact Or.inr (e_fail hj hq.1 (by decide))
  have hcs : n = 9 ∨ n = 10 ∨ n = 11 ∨ n = 12 ∨ n = 13 ∨ n = 14 ∨ n = 15 ∨ n = 16 ∨ n = 17 ∨ n = 18 ∨ n = 19 ∨ n = 20 ∨ n = 21 ∨ n = 22 := by omega
  clear hn pr c8 c23
  rcases hcs with rfl | rfl | rfl | rfl | rfl | rfl | rfl | rfl | rfl | rfl | rfl | rfl | rfl | rfl
  · have hp := q_place hq
    show eZ j (gw_u (f_Player_nextAddress U).2 1 4 (f_Player_nextAddress U).1) (gw_u (f_Model_place V2).2 0 18 (f_Model_place V2).1)
    rw [hp.1]; exact Or.inl (eG_at hp.2.2.1)
  · exact e_call hj hq
  · exact e_back hj hq
  · exact Or.inl (e_loop hq)
  · exact e_when hj hq
  · exact Or.inl (eG_on hq.1)
  · exact Or.inl (eG_on (eG_at hq.1))
  · exact Or.inl (e_start hq)
  · exact e_each hj hq
  · have hp := q_page hq
    show eZ j (gw_u (f_Pages_pageOf (f_Player_nextByte U).2 (f_Player_nextByte U).1).2 9 1 (f_Pages_pageOf (f_Player_nextByte U).2 (f_Player_nextByte U).1).1) (gw_u (f_Model_page V2).2 0 4 (f_Model_page V2).1)
    rw [hp.1]; exact Or.inl (eG_w hp.2.2.1 (by omega))
  · have hp := q_page hq
    have hs := q_next hp.2.2
    show eZ j (f_Pages_fill (f_Player_nextByte (f_Pages_pageOf (f_Player_nextByte U).2 (f_Player_nextByte U).1).2).2 (f_Pages_pageOf (f_Player_nextByte U).2 (f_Player_nextByte U).1).1 ((f_Player_nextByte (f_Pages_pageOf (f_Player_nextByte U).2 (f_Player_nextByte U).1).2).1 &&& (15 : Int32))).2 (fl_Model_fill_15 (f_Model_page V2).1 ((f_Model_next (f_Model_page V2).2).1 &&& (15 : Int32)) (gw_fu (((2560 : Int32) : Int32).toInt - ((0 : Int32) : Int32).toInt)) (f_Model_next (f_Model_page V2).2).2 (0 : Int32)).2
    rw [hp.1, hs.1]; exact Or.inl (e_pfill hs.2.2 hp.2.1)
  · have hp := q_page hq
    have hs := q_page hp.2.2
    show eZ j (f_Pages_copy (f_Pages_pageOf (f_Player_nextByte (f_Pages_pageOf (f_Player_nextByte U).2 (f_Player_nextByte U).1).2).2 (f_Player_nextByte (f_Pages_pageOf (f_Player_nextByte U).2 (f_Player_nextByte U).1).2).1).2 (f_Pages_pageOf (f_Player_nextByte U).2 (f_Player_nextByte U).1).1 (f_Pages_pageOf (f_Player_nextByte (f_Pages_pageOf (f_Player_nextByte U).2 (f_Player_nextByte U).1).2).2 (f_Player_nextByte (f_Pages_pageOf (f_Player_nextByte U).2 (f_Player_nextByte U).1).2).1).1).2 (fl_Model_copy_12 (f_Model_page V2).1 (f_Model_page (f_Model_page V2).2).1 (gw_fu (((2560 : Int32) : Int32).toInt - ((0 : Int32) : Int32).toInt)) (f_Model_page (f_Model_page V2).2).2 (0 : Int32)).2
    rw [hp.1, hs.1]; exact Or.inl (e_pcopy hs.2.2 hp.2.1 hs.2.1)
  · have hp := q_page hq
    show eZ j (gw_u (f_Pages_pageOf (f_Player_nextByte U).2 (f_Player_nextByte U).1).2 9 2 (f_Pages_pageOf (f_Player_nextByte U).2 (f_Player_nextByte U).1).1) (gw_u (f_Model_page V2).2 0 5 (f_Model_page V2).1)
    rw [hp.1]; exact Or.inl (eG_w hp.2.2.1 (by omega))
  · exact Or.inl (hD j U V2 hq)
