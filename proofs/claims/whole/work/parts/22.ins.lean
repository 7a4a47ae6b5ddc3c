theorem e_cl {j : Nat} (hj : j < 16) : (nI j).toNatClampNeg = j := nI_clamp (by omega)
theorem eG_ch {j k b c : Nat} {S T : gw_S} {x : Int32} (h : eG j S T) (hk : k < 16) (g : (b = 1 ∧ c = 6) ∨ (b = 2 ∧ c = 5) ∨ (b = 3 ∧ c = 10) ∨ (b = 5 ∧ c = 8) ∨ (b = 6 ∧ c = 9)) : eG j (gw_u S (k + 14) b x) (gw_u T c k x) := by
  obtain ⟨h1, h2, h3, h4, h5, h6⟩ := h
  refine ⟨eR_m h1 (eLc hk g), ?_, ?_, ?_, ?_, fun q hq => ?_⟩
  · rw [gw_un (by omega)]; exact h2
  · rw [gw_un (by omega), gw_un (by omega)]; exact h3
  · rw [gw_un (by omega), gw_un (by omega)]; exact h4
  · rw [gw_un (by omega)]; exact h5
  · rw [gw_un (by omega), gw_un (by omega)]; exact h6 q hq
theorem eG_p {j k i : Nat} {S T : gw_S} {x : Int32} (h : eG j S T) (hk : k < 16) (hi : i < 8) : eG j (gw_u S (k + 30) i x) (gw_u T 11 (8 * k + i) x) := by
  obtain ⟨h1, h2, h3, h4, h5, h6⟩ := h
  refine ⟨eR_m h1 (eLp hk hi), ?_, ?_, ?_, ?_, fun q hq => ?_⟩
  · rw [gw_un (by omega)]; exact h2
  · rw [gw_un (by omega), gw_un (by omega)]; exact h3
  · rw [gw_un (by omega), gw_un (by omega)]; exact h4
  · rw [gw_un (by omega)]; exact h5
  · rw [gw_un (by omega), gw_un (by omega)]; exact h6 q hq
theorem eG_w {j b d : Nat} {S T : gw_S} {x : Int32} (h : eG j S T) (g : (b = 1 ∧ d = 4) ∨ (b = 2 ∧ d = 5)) : eG j (gw_u S 9 b x) (gw_u T 0 d x) := by
  obtain ⟨h1, h2, h3, h4, h5, h6⟩ := h
  refine ⟨?_, ?_, ?_, ?_, ?_, fun q hq => ?_⟩
  · rcases g with ⟨rfl, rfl⟩ | ⟨rfl, rfl⟩
    · exact eR_m h1 eL91
    · exact eR_m h1 eL92
  · rw [gw_un (by omega)]; exact h2
  · rw [gw_un (by omega), gw_un (by omega)]; exact h3
  · rw [gw_un (by omega), gw_un (by omega)]; exact h4
  · rw [gw_un (by omega)]; exact h5
  · rw [gw_un (by omega), gw_un (by omega)]; exact h6 q hq
theorem eG_on {j : Nat} {S T : gw_S} (h : eG j S T) : eG j (gw_u S 1 5 (0 : Int32)) (gw_u T 0 20 (0 : Int32)) := by
  obtain ⟨h1, h2, h3, h4, h5, h6⟩ := h
  refine ⟨eR_1 (eR_0 h1 (by omega)), ?_, ?_, ?_, ?_, fun q hq => ?_⟩
  · rw [gw_un (by omega)]; exact h2
  · rw [gw_un (by omega), gw_un (by omega)]; exact h3
  · rw [gw_us, gw_us]
  · rw [gw_un (by omega)]; exact h5
  · rw [gw_un (by omega), gw_un (by omega)]; exact h6 q hq
theorem e_ix {j m : Nat} (hj : j < 16) (hm : m < 9) : (((8 : Int32) * nI j) + nI m).toNatClampNeg = 8 * j + m := by
  rw [show (8 : Int32) = nI 8 from rfl, pk_mul, nI_add, nI_clamp (by omega)]
theorem e_call {j : Nat} {S T : gw_S} (hj : j < 16) (h : eQ j S T) : eZ j (f_Player_callAddress j S).2 (f_Model_call T).2 := by
  unfold f_Player_callAddress f_Model_call
  refine e_b (Ψ := fun p q : Unit × gw_S => eZ j p.2 q.2) (P := fun r U V => vp_in r 1024 ∧ eQ j U V) (q_place h) (fun r U V p => ?_)
  obtain ⟨pr, hq⟩ := p
  have hg := hq.1
  have hw : V 0 17 = nI j := hg.2.1
  have hmy : U (j + 14) 1 = V 6 j := eR_g hg.1 (eLc hj (by omega))
  have hin : vp_in (V 6 j) 9 := (hq.2.2.1 6 j).2.2.2.1 rfl
  obtain ⟨m, hm, em⟩ := vp_in_of hin (by decide)
  rw [hw, e_cl hj]
  have hU : U (j + 14) 1 = nI m := hmy.trans em
  by_cases c : m = 8
  · subst c
    have u : f_Channel_pushReturn j U (U 1 4) = ((0 : Int32), U) := by
      unfold f_Channel_pushReturn
      rw [hU, if_neg (by decide), if_neg (by decide)]
    rw [u, if_pos (by rw [em]; rfl)]
    exact Or.inr (e_fail hj hg (by decide))
  · have u : f_Channel_pushReturn j U (U 1 4) = ((1 : Int32), gw_u (gw_u U (j + 30) m (U 1 4)) (j + 14) 1 (nI m + (1 : Int32))) := by
      unfold f_Channel_pushReturn
      rw [hU, if_neg (nI_pos (by omega)), if_pos (show nI m < (8 : Int32) from nI_lt (b := 8) (by omega) (by omega)), nI_clamp (by omega)]
      show ((1 : Int32), gw_u (gw_u U (j + 30) m (U 1 4)) (j + 14) 1 ((gw_u U (j + 30) m (U 1 4)) (j + 14) 1 + (1 : Int32))) = _
      rw [gw_un (by omega), hU]
    rw [u, if_neg (by rw [em]; intro q; exact c ((nI_eq (a := m) (b := 8) (by omega) (by omega)).mp q)), em, e_ix hj (by omega)]
    refine Or.inl ?_
    show eG j (gw_u (gw_u (gw_u U (j + 30) m (U 1 4)) (j + 14) 1 (nI m + (1 : Int32))) 1 4 r) (gw_u (gw_u (gw_u V 11 (8 * j + m) (V 0 18)) 6 ((gw_u V 11 (8 * j + m) (V 0 18)) 0 17).toNatClampNeg ((gw_u V 11 (8 * j + m) (V 0 18)) 6 ((gw_u V 11 (8 * j + m) (V 0 18)) 0 17).toNatClampNeg + (1 : Int32))) 0 18 r)
    rw [gw_un (a := 0) (by omega), hw, e_cl hj, gw_un (a := 6) (by omega), em, hg.2.2.1]
    exact eG_at (eG_ch (eG_p hg hj (by omega)) hj (by omega))
theorem e_back {j : Nat} {S T : gw_S} (hj : j < 16) (h : eQ j S T) : eZ j (f_Player_comeBack j S).2 (f_Model_back T).2 := by
  have hg := h.1
  have hw : T 0 17 = nI j := hg.2.1
  have hmy : S (j + 14) 1 = T 6 j := eR_g hg.1 (eLc hj (by omega))
  have hin : vp_in (T 6 j) 9 := (h.2.2.1 6 j).2.2.2.1 rfl
  obtain ⟨m, hm, em⟩ := vp_in_of hin (by decide)
  have hU : S (j + 14) 1 = nI m := hmy.trans em
  unfold f_Player_comeBack f_Model_back
  rw [hw, e_cl hj]
  by_cases c : m = 0
  · subst c
    have u : f_Channel_popReturn j S = ((-1 : Int32), S) := by
      unfold f_Channel_popReturn
      rw [hU, if_pos (by decide)]
    rw [u, if_pos (by rw [em]; rfl)]
    exact Or.inr (e_fail hj hg (by decide))
  · have hp : nI m - (1 : Int32) = nI (m - 1) := by rw [show (1 : Int32) = nI 1 from rfl, pk_sub (by omega)]
    have u : f_Channel_popReturn j S = (S (j + 30) (m - 1), gw_u S (j + 14) 1 (nI (m - 1))) := by
      unfold f_Channel_popReturn
      rw [hU, if_neg (show ¬ nI m < (1 : Int32) from nI_nlt (a := m) (b := 1) (by omega) (by omega)), if_pos (show nI m ≤ (8 : Int32) from nI_le (b := 8) (by omega) (by omega)), hp]
      show ((gw_u S (j + 14) 1 (nI (m - 1))) (j + 30) ((gw_u S (j + 14) 1 (nI (m - 1))) (j + 14) 1).toNatClampNeg, _) = _
      rw [gw_us, nI_clamp (by omega), gw_un (by omega)]
    have hpile : S (j + 30) (m - 1) = T 11 (8 * j + (m - 1)) := eR_g hg.1 (eLp hj (by omega))
    have hr : vp_in (T 11 (8 * j + (m - 1))) 1024 := (h.2.2.1 11 _).2.2.2.2.1 (Or.inl rfl)
    have hne : ¬ S (j + 30) (m - 1) = (-1 : Int32) := by
      rw [hpile]
      intro q
      rw [q, vp_in_iff] at hr
      exact absurd hr.1 (by decide)
    rw [u, if_neg (by rw [em]; intro q; exact c ((nI_eq (a := m) (b := 0) (by omega) (by omega)).mp q))]
    show eZ j (if S (j + 30) (m - 1) = (-1 : Int32) then _ else _ : Unit × gw_S).2 _
    rw [if_neg hne]
    refine Or.inl ?_
    show eG j (gw_u (gw_u S (j + 14) 1 (nI (m - 1))) 1 4 (S (j + 30) (m - 1))) (gw_u (gw_u T 6 j (T 6 j - (1 : Int32))) 0 18 ((gw_u T 6 j (T 6 j - (1 : Int32))) 11 (((8 : Int32) * (gw_u T 6 j (T 6 j - (1 : Int32))) 0 17) + (gw_u T 6 j (T 6 j - (1 : Int32))) 6 ((gw_u T 6 j (T 6 j - (1 : Int32))) 0 17).toNatClampNeg).toNatClampNeg))
    rw [gw_un (a := 0) (by omega), hw, e_cl hj, gw_us, em, hp, e_ix hj (by omega), gw_un (a := 11) (by omega), hpile]
    exact eG_at (eG_ch hg hj (by omega))
theorem e_loop {j : Nat} {S T : gw_S} (h : eQ j S T) : eG j (f_Player_loop S).2 (f_Model_loop T).2 := by
  unfold f_Player_loop f_Model_loop
  refine e_b (Ψ := fun p q : Unit × gw_S => eG j p.2 q.2) (P := fun r U V => vp_in r 32 ∧ eQ j U V) (q_name h) (fun r U V p => ?_)
  refine e_b (Ψ := fun p q : Unit × gw_S => eG j p.2 q.2) (P := fun r U V => vp_in r 1024 ∧ eQ j U V) (q_place p.2) (fun t U2 V2 p2 => ?_)
  have hg := p2.2.1
  have hv := eR_f4 hg.1
  show eG j (if (gw_u U2 4 r.toNatClampNeg (U2 4 r.toNatClampNeg - (1 : Int32)).toInt16.toInt32) 4 r.toNatClampNeg = 0 then ((), gw_u U2 4 r.toNatClampNeg (U2 4 r.toNatClampNeg - (1 : Int32)).toInt16.toInt32) else ((), gw_u (gw_u U2 4 r.toNatClampNeg (U2 4 r.toNatClampNeg - (1 : Int32)).toInt16.toInt32) 1 4 t)).2 (if (gw_u V2 3 r.toNatClampNeg (V2 3 r.toNatClampNeg - (1 : Int32)).toInt16.toInt32) 3 r.toNatClampNeg = 0 then ((), gw_u (gw_u V2 3 r.toNatClampNeg (V2 3 r.toNatClampNeg - (1 : Int32)).toInt16.toInt32) 0 18 ((gw_u V2 3 r.toNatClampNeg (V2 3 r.toNatClampNeg - (1 : Int32)).toInt16.toInt32) 0 18)) else ((), gw_u (gw_u V2 3 r.toNatClampNeg (V2 3 r.toNatClampNeg - (1 : Int32)).toInt16.toInt32) 0 18 t)).2
  rw [gw_us, gw_us, hv]
  have hg2 : eG j (gw_u U2 4 r.toNatClampNeg (V2 3 r.toNatClampNeg - (1 : Int32)).toInt16.toInt32) (gw_u V2 3 r.toNatClampNeg (V2 3 r.toNatClampNeg - (1 : Int32)).toInt16.toInt32) := eG_v hg
  refine e_if (Ψ := fun p q : Unit × gw_S => eG j p.2 q.2) (fun _ => ?_) (fun _ => eG_at hg2)
  have e1 : ∀ W : gw_S, gw_u W 0 18 (W 0 18) = W := by
    intro W
    funext a b
    by_cases q : a = 0 ∧ b = 18
    · obtain ⟨rfl, rfl⟩ := q
      rw [gw_us]
    · rw [gw_un q]
  show eG j _ (gw_u _ 0 18 _)
  rw [e1]; exact hg2
