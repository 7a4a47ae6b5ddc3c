theorem e_vz : vp_nar .boolean (1 : Int32) = 1 ∧ vp_nar .boolean (0 : Int32) = 0 := ⟨rfl, rfl⟩
theorem eR_ch {k b c : Nat} {S T : gw_S} {x : Int32} (h : eR S T) (hk : k < 16) (g : (b = 1 ∧ c = 6) ∨ (b = 2 ∧ c = 5) ∨ (b = 3 ∧ c = 10) ∨ (b = 5 ∧ c = 8) ∨ (b = 6 ∧ c = 9)) : eR (gw_u S (k + 14) b x) (gw_u T c k x) := eR_m h (eLc hk g)
theorem eP_ch {k b c : Nat} {S T : gw_S} {x : Int32} (h : eP S T) (hk : k < 16) (g : (b = 1 ∧ c = 6) ∨ (b = 2 ∧ c = 5) ∨ (b = 3 ∧ c = 10) ∨ (b = 5 ∧ c = 8) ∨ (b = 6 ∧ c = 9)) : eP (gw_u S (k + 14) b x) (gw_u T c k x) :=
  ⟨eR_ch h.1 hk g, fun q hq => by rw [gw_un (by omega), gw_un (by omega)]; exact h.2 q hq⟩
def eV (S T : gw_S) : Prop := eP S T ∧ S 0 2 = T 0 14
theorem eV_ch {k b c : Nat} {S T : gw_S} {x : Int32} (h : eV S T) (hk : k < 16) (g : (b = 1 ∧ c = 6) ∨ (b = 2 ∧ c = 5) ∨ (b = 3 ∧ c = 10) ∨ (b = 5 ∧ c = 8) ∨ (b = 6 ∧ c = 9)) : eV (gw_u S (k + 14) b x) (gw_u T c k x) :=
  ⟨eP_ch h.1 hk g, by rw [gw_un (by omega), gw_un (by omega)]; exact h.2⟩
theorem e_set1 {k : Nat} {S T : gw_S} (hk : k < 16) (h : eV S T) : eV (if (S (k + 14) 6) = (-2 : Int32) then (((), S)) else (if (S (k + 14) 6) = (1 : Int32) then (gw_n (gw_u S (k + 14) 3 (1 : Int32)) fun S51 => gw_n (gw_u S51 (k + 14) 6 (-2 : Int32)) fun S57 => ((), S57)) else (gw_n (gw_u S (k + 14) 3 (0 : Int32)) fun S51 => gw_n (gw_u S51 (k + 14) 6 (-2 : Int32)) fun S57 => ((), S57))) : Unit × gw_S).2 (if (T 9 k) = (-2 : Int32) then ((), T) else (if (T 9 k) = (1 : Int32) then ((), gw_u (gw_u T 10 k (1 : Int32)) 9 k (-2 : Int32)) else ((), gw_u (gw_u T 10 k (0 : Int32)) 9 k (-2 : Int32))) : Unit × gw_S).2 := by
  rw [eR_g h.1.1 (eLc hk (b := 6) (c := 9) (by omega))]
  refine e_if (Ψ := fun p q : Unit × gw_S => eV p.2 q.2) (fun _ => h) (fun _ => ?_)
  exact e_if (Ψ := fun p q : Unit × gw_S => eV p.2 q.2) (fun _ => eV_ch (eV_ch h hk (by omega)) hk (by omega)) (fun _ => eV_ch (eV_ch h hk (by omega)) hk (by omega))
def e_st1 (T : gw_S) (k : Nat) : Unit × gw_S := (if (T 8 k) = (-2 : Int32) then (if (T 9 k) = (-2 : Int32) then ((), T) else (if (T 9 k) = (1 : Int32) then ((), gw_u (gw_u T 10 k (1 : Int32)) 9 k (-2 : Int32)) else ((), gw_u (gw_u T 10 k (0 : Int32)) 9 k (-2 : Int32)))) else (if ((gw_u (gw_u (gw_u T 5 k (T 8 k)) 6 k (0 : Int32)) 8 k (-2 : Int32)) 9 k) = (-2 : Int32) then ((), (gw_u (gw_u (gw_u T 5 k (T 8 k)) 6 k (0 : Int32)) 8 k (-2 : Int32))) else (if ((gw_u (gw_u (gw_u T 5 k (T 8 k)) 6 k (0 : Int32)) 8 k (-2 : Int32)) 9 k) = (1 : Int32) then ((), gw_u (gw_u (gw_u (gw_u (gw_u T 5 k (T 8 k)) 6 k (0 : Int32)) 8 k (-2 : Int32)) 10 k (1 : Int32)) 9 k (-2 : Int32)) else ((), gw_u (gw_u (gw_u (gw_u (gw_u T 5 k (T 8 k)) 6 k (0 : Int32)) 8 k (-2 : Int32)) 10 k (0 : Int32)) 9 k (-2 : Int32)))))
theorem e_set {k : Nat} {S T : gw_S} (hk : k < 16) (h : eV S T) : eV (f_Channel_settleAsked k S).2 (e_st1 T k).2 := by
  unfold f_Channel_settleAsked e_st1
  have e5 := eR_g h.1.1 (eLc hk (b := 5) (c := 8) (by omega))
  rw [e5]
  refine e_if (Ψ := fun p q : Unit × gw_S => eV p.2 q.2) (fun _ => e_set1 hk h) (fun _ => ?_)
  have h3 : eV (gw_u (gw_u (gw_u S (k + 14) 2 (T 8 k)) (k + 14) 1 (0 : Int32)) (k + 14) 5 (-2 : Int32)) (gw_u (gw_u (gw_u T 5 k (T 8 k)) 6 k (0 : Int32)) 8 k (-2 : Int32)) := eV_ch (eV_ch (eV_ch h hk (by omega)) hk (by omega)) hk (by omega)
  exact e_set1 hk h3
theorem u_settle (n : Nat) (T : gw_S) (x : Int32) (hx : ¬ (16 : Int32) ≤ x) : fl_Model_settle_2 (n + 1) T x = fl_Model_settle_2 n (e_st1 T x.toNatClampNeg).2 (x + (1 : Int32)) := by
  refine (if_neg hx).trans ?_
  unfold e_st1
  by_cases c1 : T 8 x.toNatClampNeg = (-2 : Int32)
  · rw [if_pos c1, if_pos c1]
    by_cases c2 : T 9 x.toNatClampNeg = (-2 : Int32)
    · rw [if_pos c2, if_pos c2]; rfl
    · rw [if_neg c2, if_neg c2]
      by_cases c3 : T 9 x.toNatClampNeg = (1 : Int32)
      · rw [if_pos c3, if_pos c3]; rfl
      · rw [if_neg c3, if_neg c3]; rfl
  · rw [if_neg c1, if_neg c1]
    show (if ((gw_u (gw_u (gw_u T 5 x.toNatClampNeg (T 8 x.toNatClampNeg)) 6 x.toNatClampNeg (0 : Int32)) 8 x.toNatClampNeg (-2 : Int32)) 9 x.toNatClampNeg) = (-2 : Int32) then _ else _ : Unit × gw_S) = _
    generalize gw_u (gw_u (gw_u T 5 x.toNatClampNeg (T 8 x.toNatClampNeg)) 6 x.toNatClampNeg (0 : Int32)) 8 x.toNatClampNeg (-2 : Int32) = T3
    by_cases c2 : T3 9 x.toNatClampNeg = (-2 : Int32)
    · rw [if_pos c2, if_pos c2]; rfl
    · rw [if_neg c2, if_neg c2]
      by_cases c3 : T3 9 x.toNatClampNeg = (1 : Int32)
      · rw [if_pos c3, if_pos c3]; rfl
      · rw [if_neg c3, if_neg c3]; rfl
theorem e_fr41 {cap : Int32} {Q : gw_S → gw_S → Prop} : ∀ (n : Nat) (S T : gw_S) (x : Int32), 0 < n → ((16 : Int32)).toInt - x.toInt < (n : Int) → 0 ≤ x.toInt → eV S T → ∃ S' T', fl_SM_frame_41 cap n S x = fl_SM_frame_69 cap (gw_fu (((16 : Int32) : Int32).toInt - ((0 : Int32) : Int32).toInt)) S' (0 : Int32) (0 : Int32) ∧ (fl_Model_settle_2 n T x).2 = T' ∧ eV S' T' ∧ (cOK S → cOK S') := by
  intro n
  induction n with
  | zero => intro S T x h0; exact absurd h0 (Nat.lt_irrefl 0)
  | succ n ih =>
    intro S T x _ hf h0 h
    by_cases c : (16 : Int32) ≤ x
    · exact ⟨S, T, if_pos c, congrArg Prod.snd (if_pos c : fl_Model_settle_2 (n + 1) T x = ((), T)), h, id⟩
    · have hx : vp_in x 16 := gw_inB (by decide) c h0
      have hxl := gw_inlt hx
      have hst := gw_stp c hf
      have u1 : fl_SM_frame_41 cap (n + 1) S x = fl_SM_frame_41 cap n (f_Channel_settleAsked x.toNatClampNeg S).2 (x + (1 : Int32)) := if_neg c
      obtain ⟨S', T', a1, a2, a3, a4⟩ := ih (f_Channel_settleAsked x.toNatClampNeg S).2 (e_st1 T x.toNatClampNeg).2 (x + (1 : Int32)) hst.1 hst.2.1 (gw_stp0 c h0) (e_set hxl h)
      exact ⟨S', T', u1.trans a1, (congrArg Prod.snd (u_settle n T x c)).trans a2, a3, fun q => a4 (po_ok_Channel_settleAsked hxl S q)⟩
theorem e_fr69_open (hD : ∀ (j : Nat) (S T : gw_S), eQ j S T → eG j (f_Player_draw S).2 (f_Model_draw T).2) {cap : Int32} : ∀ (n : Nat) (S T : gw_S) (t x : Int32), 0 < n → ((16 : Int32)).toInt - x.toInt < (n : Int) → 0 ≤ x.toInt → eV S T → rOK T → cOK S → (fl_SM_frame_69 cap n S t x).1 = (fl_Model_frame_46 cap n T t x).1 ∧ eV (fl_SM_frame_69 cap n S t x).2 (fl_Model_frame_46 cap n T t x).2 := by
  intro n
  induction n with
  | zero => intro S T t x h0; exact absurd h0 (Nat.lt_irrefl 0)
  | succ n ih =>
    intro S T t x _ hf h0 h hrok hcok
    by_cases c : (16 : Int32) ≤ x
    · have u1 : fl_SM_frame_69 cap (n + 1) S t x = (t, S) := if_pos c
      have u2 : fl_Model_frame_46 cap (n + 1) T t x = (t, T) := if_pos c
      rw [u1, u2]; exact ⟨rfl, h⟩
    · have hx : vp_in x 16 := gw_inB (by decide) c h0
      obtain ⟨j, hj, ej⟩ := vp_in_of hx (by decide)
      have hcl : x.toNatClampNeg = j := by rw [ej]; exact e_cl hj
      have hst := gw_stp c hf
      have hst0 := gw_stp0 c h0
      have u1 : fl_SM_frame_69 cap (n + 1) S t x = gw_b (f_Channel_isRunning x.toNatClampNeg S) fun r84 S84 => if r84 = 0 then (fl_SM_frame_69 cap n S84 t (x + (1 : Int32))) else (gw_b (f_Player_takeTurn x.toNatClampNeg S84 cap) fun r109 S109 => gw_n (gw_u S109 0 2 ((S84 0 2) + r109)) fun S113 => (fl_SM_frame_69 cap n S113 (t + (1 : Int32)) (x + (1 : Int32)))) := if_neg c
      have u2 : fl_Model_frame_46 cap (n + 1) T t x = (if (T 5 x.toNatClampNeg) = (-1 : Int32) then (fl_Model_frame_46 cap n T t (x + (1 : Int32))) else (if (T 10 x.toNatClampNeg) = 0 then (gw_b (f_Model_turn T x cap) fun _ S74 => (fl_Model_frame_46 cap n S74 (t + (1 : Int32)) (x + (1 : Int32)))) else (fl_Model_frame_46 cap n T t (x + (1 : Int32))))) := if_neg c
      rw [u1, u2, hcl]
      have e2 := eR_g h.1.1 (eLc hj (b := 2) (c := 5) (by omega))
      have e3 := eR_g h.1.1 (eLc hj (b := 3) (c := 10) (by omega))
      have ur : f_Channel_isRunning j S = (if T 5 j = (-1 : Int32) then ((0 : Int32), S) else (if T 10 j = 0 then ((1 : Int32), S) else ((0 : Int32), S))) := by unfold f_Channel_isRunning; rw [e2, e3]
      rw [ur]
      by_cases c1 : T 5 j = (-1 : Int32)
      · rw [if_pos c1, if_pos c1]; exact ih S T t _ hst.1 hst.2.1 hst0 h hrok hcok
      · rw [if_neg c1, if_neg c1]
        by_cases c2 : T 10 j = 0
        · rw [if_pos c2, if_pos c2]
          obtain ⟨r1, r2⟩ := e_turn_open hD hj (cap := cap) h.1 hrok hcok c1
          have hxj : f_Model_turn T x cap = f_Model_turn T (nI j) cap := by rw [ej]
          show (fl_SM_frame_69 cap n (gw_u (f_Player_takeTurn j S cap).2 0 2 ((S 0 2) + (f_Player_takeTurn j S cap).1)) (t + (1 : Int32)) (x + (1 : Int32))).1 = (fl_Model_frame_46 cap n (f_Model_turn T x cap).2 (t + (1 : Int32)) (x + (1 : Int32))).1 ∧ eV (fl_SM_frame_69 cap n (gw_u (f_Player_takeTurn j S cap).2 0 2 ((S 0 2) + (f_Player_takeTurn j S cap).1)) (t + (1 : Int32)) (x + (1 : Int32))).2 (fl_Model_frame_46 cap n (f_Model_turn T x cap).2 (t + (1 : Int32)) (x + (1 : Int32))).2
          rw [hxj]
          refine ih _ _ _ _ hst.1 hst.2.1 hst0 ⟨⟨eR_y r1.1 (by omega), fun k hk => ?_⟩, ?_⟩ (po_ok_Model_turn T (nI j) cap hrok (vp_in_nI hj (by decide)) (by rw [e_cl hj]; exact c1)) (cOK_o rfl (po_ok_Player_takeTurn hj S cap hcok) (by omega))
          · rw [gw_un (by omega)]; exact r1.2 k hk
          · rw [gw_us, r2, h.2]
        · rw [if_neg c2, if_neg c2]; exact ih S T t _ hst.1 hst.2.1 hst0 h hrok hcok
