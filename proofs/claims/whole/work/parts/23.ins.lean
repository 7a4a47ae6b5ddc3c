theorem e_and0 (x : Int32) {m : Int32} (k : Nat) (hm : m.toBitVec.toNat = 2 ^ k - 1) (hk : k ≤ 30) : 0 ≤ (x &&& m).toInt := by
  have h := pk_andIn x k hm hk
  rw [vp_in_iff] at h
  exact h.1
theorem e_128 (x : Int32) : (x &&& (128 : Int32)) = 0 ↔ (x &&& (128 : Int32)) ≤ 0 := by
  have h : (x &&& (128 : Int32)) = (x &&& (255 : Int32)) &&& (128 : Int32) := by rw [Int32.and_assoc]; rfl
  obtain ⟨n, hn, e⟩ := vp_in_of (gw_and255 x) (by decide)
  rw [h, e]
  have key : ∀ n : Fin 256, (nI n.val &&& (128 : Int32)) = 0 ↔ (nI n.val &&& (128 : Int32)) ≤ 0 := by decide +kernel
  exact key ⟨n, hn⟩
theorem e_64 (x : Int32) : (x &&& (64 : Int32)) = 0 ↔ (x &&& (64 : Int32)) ≤ 0 := by
  have h : (x &&& (64 : Int32)) = (x &&& (255 : Int32)) &&& (64 : Int32) := by rw [Int32.and_assoc]; rfl
  obtain ⟨n, hn, e⟩ := vp_in_of (gw_and255 x) (by decide)
  rw [h, e]
  have key : ∀ n : Fin 256, (nI n.val &&& (64 : Int32)) = 0 ↔ (nI n.val &&& (64 : Int32)) ≤ 0 := by decide +kernel
  exact key ⟨n, hn⟩
theorem e_at1 (W : gw_S) : gw_u W 0 18 (W 0 18) = W := by
  funext a b
  by_cases q : a = 0 ∧ b = 18
  · obtain ⟨rfl, rfl⟩ := q
    rw [gw_us]
  · rw [gw_un q]
theorem e_cmp (S T : gw_S) (a b c : Int32) : (f_Player_compares S a b c).1 = (f_Model_compares T a b c).1 := by
  unfold f_Player_compares f_Model_compares
  refine e_if (Ψ := fun p q : Int32 × gw_S => p.1 = q.1) (fun _ => e_if (Ψ := fun p q : Int32 × gw_S => p.1 = q.1) (fun _ => rfl) (fun _ => rfl)) (fun _ => ?_)
  refine e_if (Ψ := fun p q : Int32 × gw_S => p.1 = q.1) (fun _ => e_if (Ψ := fun p q : Int32 × gw_S => p.1 = q.1) (fun _ => rfl) (fun _ => rfl)) (fun _ => ?_)
  refine e_if (Ψ := fun p q : Int32 × gw_S => p.1 = q.1) (fun _ => e_if (Ψ := fun p q : Int32 × gw_S => p.1 = q.1) (fun _ => rfl) (fun _ => rfl)) (fun _ => ?_)
  refine e_if (Ψ := fun p q : Int32 × gw_S => p.1 = q.1) (fun _ => e_if (Ψ := fun p q : Int32 × gw_S => p.1 = q.1) (fun _ => rfl) (fun _ => rfl)) (fun _ => ?_)
  refine e_if (Ψ := fun p q : Int32 × gw_S => p.1 = q.1) (fun _ => e_if (Ψ := fun p q : Int32 × gw_S => p.1 = q.1) (fun _ => rfl) (fun _ => rfl)) (fun _ => ?_)
  exact e_if (Ψ := fun p q : Int32 × gw_S => p.1 = q.1) (fun _ => rfl) (fun _ => rfl)
theorem e_cS (S : gw_S) (a b c : Int32) : (f_Player_compares S a b c).2 = S := by
  unfold f_Player_compares
  refine po_if (Φ := fun p : Int32 × gw_S => p.2 = S) (fun _ => po_if (Φ := fun p : Int32 × gw_S => p.2 = S) (fun _ => rfl) (fun _ => rfl)) (fun _ => ?_)
  refine po_if (Φ := fun p : Int32 × gw_S => p.2 = S) (fun _ => po_if (Φ := fun p : Int32 × gw_S => p.2 = S) (fun _ => rfl) (fun _ => rfl)) (fun _ => ?_)
  refine po_if (Φ := fun p : Int32 × gw_S => p.2 = S) (fun _ => po_if (Φ := fun p : Int32 × gw_S => p.2 = S) (fun _ => rfl) (fun _ => rfl)) (fun _ => ?_)
  refine po_if (Φ := fun p : Int32 × gw_S => p.2 = S) (fun _ => po_if (Φ := fun p : Int32 × gw_S => p.2 = S) (fun _ => rfl) (fun _ => rfl)) (fun _ => ?_)
  refine po_if (Φ := fun p : Int32 × gw_S => p.2 = S) (fun _ => po_if (Φ := fun p : Int32 × gw_S => p.2 = S) (fun _ => rfl) (fun _ => rfl)) (fun _ => ?_)
  exact po_if (Φ := fun p : Int32 × gw_S => p.2 = S) (fun _ => rfl) (fun _ => rfl)
theorem e_cT (S : gw_S) (a b c : Int32) : (f_Model_compares S a b c).2 = S := by
  unfold f_Model_compares
  refine po_if (Φ := fun p : Int32 × gw_S => p.2 = S) (fun _ => po_if (Φ := fun p : Int32 × gw_S => p.2 = S) (fun _ => rfl) (fun _ => rfl)) (fun _ => ?_)
  refine po_if (Φ := fun p : Int32 × gw_S => p.2 = S) (fun _ => po_if (Φ := fun p : Int32 × gw_S => p.2 = S) (fun _ => rfl) (fun _ => rfl)) (fun _ => ?_)
  refine po_if (Φ := fun p : Int32 × gw_S => p.2 = S) (fun _ => po_if (Φ := fun p : Int32 × gw_S => p.2 = S) (fun _ => rfl) (fun _ => rfl)) (fun _ => ?_)
  refine po_if (Φ := fun p : Int32 × gw_S => p.2 = S) (fun _ => po_if (Φ := fun p : Int32 × gw_S => p.2 = S) (fun _ => rfl) (fun _ => rfl)) (fun _ => ?_)
  refine po_if (Φ := fun p : Int32 × gw_S => p.2 = S) (fun _ => po_if (Φ := fun p : Int32 × gw_S => p.2 = S) (fun _ => rfl) (fun _ => rfl)) (fun _ => ?_)
  exact po_if (Φ := fun p : Int32 × gw_S => p.2 = S) (fun _ => rfl) (fun _ => rfl)
theorem e_when49 {j : Nat} {U V : gw_S} {k left v x : Int32} (hj : j < 16) (h : eQ j U V) (hl : left = V 3 v.toNatClampNeg) : eZ j (gw_n (k &&& (7 : Int32)) fun v26 => if v26 ≤ (5 : Int32) then (gw_b (f_Player_nextAddress U) fun r42 S42 => gw_b (f_Player_compares S42 v26 left x) fun r52 S52 => if r52 = 0 then (((), S52)) else (gw_n (gw_u S52 1 4 r42) fun S61 => ((), S61))) else (gw_b (f_Player_fail j U (3 : Int32)) fun _ S37 => ((), S37))).2 (fl_Model_when_49 V k v x).2 := by
  unfold fl_Model_when_49
  show eZ j (if (k &&& (7 : Int32)) ≤ (5 : Int32) then _ else _ : Unit × gw_S).2 _
  refine e_if (Ψ := fun p q : Unit × gw_S => eZ j p.2 q.2) (fun _ => ?_) (fun _ => Or.inr (e_fail hj h.1 (by decide)))
  have hpl : (f_Model_place V).2 3 = V 3 := rfl
  refine e_b (Ψ := fun p q : Unit × gw_S => eZ j p.2 q.2) (P := fun r U2 V2 => (vp_in r 1024 ∧ eQ j U2 V2) ∧ V2 3 = V 3) ⟨(q_place h).1, (q_place h).2, hpl⟩ (fun r U2 V2 p => ?_)
  obtain ⟨⟨p1, p2⟩, p3⟩ := p
  refine e_b (Ψ := fun p q : Unit × gw_S => eZ j p.2 q.2) (P := fun _ U3 V3 => eQ j U3 V3) ⟨?_, ?_⟩ (fun r2 U3 V3 p4 => ?_)
  · rw [hl, p3]; exact e_cmp _ _ _ _ _
  · rw [e_cS, e_cT]; exact p2
  · refine e_if (Ψ := fun p q : Unit × gw_S => eZ j p.2 q.2) (fun _ => Or.inl ?_) (fun _ => Or.inl (eG_at p4.1))
    show eG j U3 (gw_u V3 0 18 (V3 0 18))
    rw [e_at1]; exact p4.1
theorem e_when {j : Nat} {S T : gw_S} (hj : j < 16) (h : eQ j S T) : eZ j (f_Player_jumpIf j S).2 (f_Model_when T).2 := by
  unfold f_Player_jumpIf f_Model_when
  refine e_b (Ψ := fun p q : Unit × gw_S => eZ j p.2 q.2) (P := fun r U V => vp_in r 256 ∧ eQ j U V) (q_next h) (fun k U V p => ?_)
  refine e_b (Ψ := fun p q : Unit × gw_S => eZ j p.2 q.2) (P := fun r U V => vp_in r 32 ∧ eQ j U V) (q_name p.2) (fun v U2 V2 p2 => ?_)
  have hv := eR_f4 p2.2.1.1
  show eZ j (gw_b (f_Player_nextCompared U2 k) fun r17 S17 => gw_n (k &&& (7 : Int32)) fun v26 => if v26 ≤ (5 : Int32) then (gw_b (f_Player_nextAddress S17) fun r42 S42 => gw_b (f_Player_compares S42 v26 (U2 4 v.toNatClampNeg) r17) fun r52 S52 => if r52 = 0 then (((), S52)) else (gw_n (gw_u S52 1 4 r42) fun S61 => ((), S61))) else (gw_b (f_Player_fail j S17 (3 : Int32)) fun _ S37 => ((), S37))).2 _
  unfold f_Player_nextCompared
  by_cases c1 : (k &&& (128 : Int32)) = 0
  · rw [if_pos c1, if_pos ((e_128 k).mp c1)]
    by_cases c2 : (k &&& (64 : Int32)) = 0
    · rw [if_pos c2, if_pos ((e_64 k).mp c2)]
      have hn := q_next p2.2
      show eZ j (gw_n (k &&& (7 : Int32)) fun v26 => if v26 ≤ (5 : Int32) then (gw_b (f_Player_nextAddress (f_Player_nextByte U2).2) fun r42 S42 => gw_b (f_Player_compares S42 v26 (U2 4 v.toNatClampNeg) (f_Player_nextByte U2).1) fun r52 S52 => if r52 = 0 then (((), S52)) else (gw_n (gw_u S52 1 4 r42) fun S61 => ((), S61))) else (gw_b (f_Player_fail j (f_Player_nextByte U2).2 (3 : Int32)) fun _ S37 => ((), S37))).2 (fl_Model_when_49 (f_Model_next V2).2 k v (f_Model_next V2).1).2
      rw [hn.1]
      exact e_when49 hj hn.2.2 (by rw [hv]; rfl)
    · rw [if_neg c2, if_neg (fun q => c2 ((e_64 k).mpr q))]
      have hn := q_signed p2.2
      show eZ j (gw_n (k &&& (7 : Int32)) fun v26 => if v26 ≤ (5 : Int32) then (gw_b (f_Player_nextAddress (f_Player_nextNumber U2).2) fun r42 S42 => gw_b (f_Player_compares S42 v26 (U2 4 v.toNatClampNeg) (f_Player_nextNumber U2).1) fun r52 S52 => if r52 = 0 then (((), S52)) else (gw_n (gw_u S52 1 4 r42) fun S61 => ((), S61))) else (gw_b (f_Player_fail j (f_Player_nextNumber U2).2 (3 : Int32)) fun _ S37 => ((), S37))).2 (fl_Model_when_49 (f_Model_signed V2).2 k v (f_Model_signed V2).1).2
      rw [hn.1]
      exact e_when49 hj hn.2 (by rw [hv]; rfl)
  · rw [if_neg c1, if_neg (fun q => c1 ((e_128 k).mpr q))]
    have hn := q_name p2.2
    show eZ j (gw_n (k &&& (7 : Int32)) fun v26 => if v26 ≤ (5 : Int32) then (gw_b (f_Player_nextAddress (f_Player_nextVariable U2).2) fun r42 S42 => gw_b (f_Player_compares S42 v26 (U2 4 v.toNatClampNeg) ((f_Player_nextVariable U2).2 4 (f_Player_nextVariable U2).1.toNatClampNeg)) fun r52 S52 => if r52 = 0 then (((), S52)) else (gw_n (gw_u S52 1 4 r42) fun S61 => ((), S61))) else (gw_b (f_Player_fail j (f_Player_nextVariable U2).2 (3 : Int32)) fun _ S37 => ((), S37))).2 (fl_Model_when_49 (f_Model_name V2).2 k v ((f_Model_name V2).2 3 (f_Model_name V2).1.toNatClampNeg)).2
    rw [hn.1, eR_f4 hn.2.2.1.1]
    exact e_when49 hj hn.2.2 (by rw [hv]; rfl)
theorem e_start {j : Nat} {S T : gw_S} (h : eQ j S T) : eG j (f_Player_startOther S).2 (f_Model_start T).2 := by
  unfold f_Player_startOther f_Model_start
  refine e_b (Ψ := fun p q : Unit × gw_S => eG j p.2 q.2) (P := fun r U V => vp_in r 256 ∧ eQ j U V) (q_next h) (fun k U V p => ?_)
  refine e_n (Ψ := fun p q : Unit × gw_S => eG j p.2 q.2) rfl (fun z ez => ?_)
  refine e_b (Ψ := fun p q : Unit × gw_S => eG j p.2 q.2) (P := fun r U V => vp_in r 1024 ∧ eQ j U V) (q_place p.2) (fun t U2 V2 p2 => ?_)
  have hz : z.toNatClampNeg < 16 := gw_inlt (gw_inE ez (gw_and15 _))
  exact eG_ch p2.2.1 hz (by omega)
theorem e_each35 {j : Nat} {y m : Int32} (hy : vp_in y 16) : ∀ (n : Nat) (S T : gw_S) (x : Int32), 0 ≤ x.toInt → eG j S T → eG j (fl_Player_askOfEach_38 y m n S x).2 (fl_Model_each_35 y m n T x).2 := by
  intro n
  induction n with
  | zero => intro S T x _ h; exact h
  | succ n ih =>
    intro S T x h0 h
    show eG j (if y < x then ((), S) else (if m = (2 : Int32) then fl_Player_askOfEach_38 y m n (gw_u S (x.toNatClampNeg + 14) 5 (-1 : Int32)) (x + (1 : Int32)) else fl_Player_askOfEach_38 y m n (gw_u S (x.toNatClampNeg + 14) 6 m) (x + (1 : Int32)))).2 (if y < x then ((), T) else (if m = (2 : Int32) then fl_Model_each_35 y m n (gw_u T 8 x.toNatClampNeg (-1 : Int32)) (x + (1 : Int32)) else fl_Model_each_35 y m n (gw_u T 9 x.toNatClampNeg m) (x + (1 : Int32)))).2
    refine e_if (Ψ := fun p q : Unit × gw_S => eG j p.2 q.2) (fun _ => h) (fun c => ?_)
    have hx : vp_in x 16 := gw_inG hy c h0
    have hxl := gw_inlt hx
    have h1 : 0 ≤ (x + (1 : Int32)).toInt := by
      rw [vp_in_iff] at hx
      rw [gw_add1 (by omega)]; omega
    refine e_if (Ψ := fun p q : Unit × gw_S => eG j p.2 q.2) (fun _ => ih _ _ _ h1 (eG_ch h hxl (by omega))) (fun _ => ih _ _ _ h1 (eG_ch h hxl (by omega)))
theorem e_each {j : Nat} {S T : gw_S} (hj : j < 16) (h : eQ j S T) : eZ j (f_Player_askOfEach j S).2 (f_Model_each T).2 := by
  unfold f_Player_askOfEach f_Model_each
  refine e_b (Ψ := fun p q : Unit × gw_S => eZ j p.2 q.2) (P := fun r U V => vp_in r 256 ∧ eQ j U V) (q_next h) (fun k U V p => ?_)
  refine e_n (Ψ := fun p q : Unit × gw_S => eZ j p.2 q.2) rfl (fun z ez => ?_)
  refine e_b (Ψ := fun p q : Unit × gw_S => eZ j p.2 q.2) (P := fun r U V => vp_in r 256 ∧ eQ j U V) (q_next p.2) (fun k2 U2 V2 p2 => ?_)
  refine e_n (Ψ := fun p q : Unit × gw_S => eZ j p.2 q.2) rfl (fun z2 ez2 => ?_)
  refine e_b (Ψ := fun p q : Unit × gw_S => eZ j p.2 q.2) (P := fun r U V => vp_in r 256 ∧ eQ j U V) (q_next p2.2) (fun m U3 V3 p3 => ?_)
  refine e_if (Ψ := fun p q : Unit × gw_S => eZ j p.2 q.2) (fun _ => Or.inl ?_) (fun _ => Or.inr (e_fail hj p3.2.1 (by decide)))
  exact e_each35 (gw_inE ez2 (gw_and15 _)) _ _ _ _ (vp_in_iff.mp (gw_inE ez (gw_and15 _))).1 p3.2.1
