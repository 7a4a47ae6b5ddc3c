def rAd (x : Int32) : Prop := -1 ≤ x.toInt ∧ x.toInt ≤ 1023
def rAs (x : Int32) : Prop := -2 ≤ x.toInt ∧ x.toInt ≤ 1023
def rOKc (i k : Nat) (x : Int32) : Prop := (i = 0 → k = 4 ∨ k = 5 → vp_in x 4) ∧ (i = 0 → k = 17 → vp_in x 16) ∧ (i = 0 → k = 29 → vp_in x 1024) ∧ (i = 6 → vp_in x 9) ∧ (i = 11 ∨ i = 12 → vp_in x 1024) ∧ (i = 5 → rAd x) ∧ (i = 8 → rAs x)
def rOK (S : gw_S) : Prop := ∀ i k, rOKc i k (S i k)
theorem rOK_u {S S' : gw_S} {i k : Nat} {x : Int32} (e : S' = gw_u S i k x) (h : rOK S) (hx : rOKc i k x) : rOK S' := by
  subst e
  intro a b
  by_cases q : a = i ∧ b = k
  · obtain ⟨rfl, rfl⟩ := q
    rw [gw_us]; exact hx
  · rw [gw_un q]; exact h a b
theorem rOK_f {S S' : gw_S} {k : Nat} {x : Int32} (e : S' = gw_u S 0 k x) (h : rOK S) (hk : k ≠ 4 ∧ k ≠ 5 ∧ k ≠ 17 ∧ k ≠ 29) : rOK S' :=
  rOK_u e h ⟨fun _ q => absurd q (by omega), fun _ q => absurd q (by omega), fun _ q => absurd q (by omega), fun q => absurd q (by omega), fun q => absurd q (by omega), fun q => absurd q (by omega), fun q => absurd q (by omega)⟩
theorem rOK_c {S S' : gw_S} {i k : Nat} {x : Int32} (e : S' = gw_u S i k x) (h : rOK S) (hi : i ≠ 0 ∧ i ≠ 5 ∧ i ≠ 6 ∧ i ≠ 8 ∧ i ≠ 11 ∧ i ≠ 12) : rOK S' :=
  rOK_u e h ⟨fun q => absurd q (by omega), fun q => absurd q (by omega), fun q => absurd q (by omega), fun q => absurd q (by omega), fun q => absurd q (by omega), fun q => absurd q (by omega), fun q => absurd q (by omega)⟩
theorem rOK_pg {S S' : gw_S} {k : Nat} {x : Int32} (e : S' = gw_u S 0 k x) (h : rOK S) (hk : k = 4 ∨ k = 5) (hx : vp_in x 4) : rOK S' :=
  rOK_u e h ⟨fun _ _ => hx, fun _ q => absurd q (by omega), fun _ q => absurd q (by omega), fun q => absurd q (by omega), fun q => absurd q (by omega), fun q => absurd q (by omega), fun q => absurd q (by omega)⟩
theorem rOK_who {S S' : gw_S} {x : Int32} (e : S' = gw_u S 0 17 x) (h : rOK S) (hx : vp_in x 16) : rOK S' :=
  rOK_u e h ⟨fun _ q => absurd q (by omega), fun _ _ => hx, fun _ q => absurd q (by omega), fun q => absurd q (by omega), fun q => absurd q (by omega), fun q => absurd q (by omega), fun q => absurd q (by omega)⟩
theorem rOK_rd {S S' : gw_S} {x : Int32} (e : S' = gw_u S 0 29 x) (h : rOK S) (hx : vp_in x 1024) : rOK S' :=
  rOK_u e h ⟨fun _ q => absurd q (by omega), fun _ q => absurd q (by omega), fun _ _ => hx, fun q => absurd q (by omega), fun q => absurd q (by omega), fun q => absurd q (by omega), fun q => absurd q (by omega)⟩
theorem rOK_m {S S' : gw_S} {k : Nat} {x : Int32} (e : S' = gw_u S 6 k x) (h : rOK S) (hx : vp_in x 9) : rOK S' :=
  rOK_u e h ⟨fun q => absurd q (by omega), fun q => absurd q (by omega), fun q => absurd q (by omega), fun _ => hx, fun q => absurd q (by omega), fun q => absurd q (by omega), fun q => absurd q (by omega)⟩
theorem rOK_pl {S S' : gw_S} {i k : Nat} {x : Int32} (e : S' = gw_u S i k x) (h : rOK S) (hi : i = 11 ∨ i = 12) (hx : vp_in x 1024) : rOK S' :=
  rOK_u e h ⟨fun q => absurd q (by omega), fun q => absurd q (by omega), fun q => absurd q (by omega), fun q => absurd q (by omega), fun _ => hx, fun q => absurd q (by omega), fun q => absurd q (by omega)⟩
theorem rOK_ad {S S' : gw_S} {k : Nat} {x : Int32} (e : S' = gw_u S 5 k x) (h : rOK S) (hx : rAd x) : rOK S' :=
  rOK_u e h ⟨fun q => absurd q (by omega), fun q => absurd q (by omega), fun q => absurd q (by omega), fun q => absurd q (by omega), fun q => absurd q (by omega), fun _ => hx, fun q => absurd q (by omega)⟩
theorem rOK_as {S S' : gw_S} {k : Nat} {x : Int32} (e : S' = gw_u S 8 k x) (h : rOK S) (hx : rAs x) : rOK S' :=
  rOK_u e h ⟨fun q => absurd q (by omega), fun q => absurd q (by omega), fun q => absurd q (by omega), fun q => absurd q (by omega), fun q => absurd q (by omega), fun q => absurd q (by omega), fun _ => hx⟩
theorem rAs_in {x : Int32} (h : vp_in x 1024) : rAs x := by
  rw [vp_in_iff] at h; unfold rAs; omega
theorem rAd_in {x : Int32} (h : vp_in x 1024) : rAd x := by
  rw [vp_in_iff] at h; unfold rAd; omega
theorem rAs_ad {x : Int32} (h : rAd x) : rAs x := by
  unfold rAd at h; unfold rAs; omega
theorem rAd_as {x : Int32} (h : rAs x) (hn : ¬ x = (-2 : Int32)) : rAd x := by
  unfold rAs at h; unfold rAd
  have h1 := gw_ne hn
  rw [show (-2 : Int32).toInt = -2 from rfl] at h1
  omega
theorem rAt_ad {x : Int32} (h : rAd x) (hn : ¬ x = (-1 : Int32)) : vp_in x 1024 := by
  unfold rAd at h
  rw [vp_in_iff]
  have h1 := gw_ne hn
  rw [show (-1 : Int32).toInt = -1 from rfl] at h1
  omega
theorem rOK_keep {S S' : gw_S} {i k : Nat} {x : Int32} {P : Int32 → Prop} {a b : Nat} (e : S' = gw_u S i k x) (h : P (S a b)) (hn : ¬ (a = i ∧ b = k)) : P (S' a b) := by
  rw [e, gw_un hn]; exact h
theorem rAt_set {S S' : gw_S} {x : Int32} (e : S' = gw_u S 0 18 x) (h : vp_in x 1024) : vp_in (S' 0 18) 1024 := by
  rw [e, gw_us]; exact h
theorem rAd_set {S S' : gw_S} {x : Int32} (e : S' = gw_u S 0 18 x) (h : rAd x) : rAd (S' 0 18) := by
  rw [e, gw_us]; exact h
theorem rOn0 {S S' : gw_S} (e : S' = gw_u S 0 20 (0 : Int32)) : ¬ S' 0 20 = 0 → vp_in (S' 0 18) 1024 := by
  intro h
  rw [e, gw_us] at h
  exact absurd rfl h
theorem rOn_keep {S S' : gw_S} {i k : Nat} {x : Int32} (e : S' = gw_u S i k x) (h : ¬ S 0 20 = 0 → vp_in (S 0 18) 1024) (hn : ¬ (0 = i ∧ 18 = k)) (hm : ¬ (0 = i ∧ 20 = k)) : ¬ S' 0 20 = 0 → vp_in (S' 0 18) 1024 := by
  rw [e, gw_un hn, gw_un hm]; exact h

theorem rb_turn {S S2 : gw_S} {k : Nat} {x : Int32} (e : S2 = gw_u S 0 17 x) (h : rOK S) (hk : ¬ S 5 k = (-1 : Int32)) : vp_in (S2 5 k) 1024 := by
  rw [e, gw_un (by omega)]
  exact rAt_ad ((h 5 k).2.2.2.2.2.1 rfl) hk
theorem gw_in4 {a i : Int32} (ha : vp_in a 1021) (h : ¬ (4 : Int32) ≤ i) (h0 : 0 ≤ i.toInt) : vp_in (a + i) 1024 := by
  have hi : vp_in i 4 := gw_inB (by decide) h h0
  obtain ⟨c, hc, rfl⟩ := vp_in_of ha (by decide)
  obtain ⟨d, hd, rfl⟩ := vp_in_of hi (by decide)
  rw [nI_add]
  exact vp_in_nI (by omega) (by decide)
theorem pg_iy {p x y : Int32} (hp : vp_in p 4) (hx : vp_in x 64) (hy : vp_in y 40) : vp_in ((((2560 : Int32) * p) + ((64 : Int32) * y)) + x) 10240 := by
  obtain ⟨a, ha, rfl⟩ := vp_in_of hp (by decide)
  obtain ⟨b, hb, rfl⟩ := vp_in_of hy (by decide)
  obtain ⟨c, hc, rfl⟩ := vp_in_of hx (by decide)
  rw [show (2560 : Int32) = nI 2560 from rfl, show (64 : Int32) = nI 64 from rfl, pk_mul, pk_mul, nI_add, nI_add]
  exact vp_in_nI (by omega) (by decide)
theorem pg_f {p i : Int32} (hp : vp_in p 4) (h : ¬ (2560 : Int32) ≤ i) (h0 : 0 ≤ i.toInt) : vp_in (((2560 : Int32) * p) + i) 10240 := by
  have hi : vp_in i 2560 := gw_inB (by decide) h h0
  obtain ⟨a, ha, rfl⟩ := vp_in_of hp (by decide)
  obtain ⟨b, hb, rfl⟩ := vp_in_of hi (by decide)
  rw [show (2560 : Int32) = nI 2560 from rfl, pk_mul, nI_add]
  exact vp_in_nI (by omega) (by decide)
theorem pg_l {S : gw_S} {y x : Int32} (hok : rOK S) (hy : vp_in y 40) (h : ¬ (64 : Int32) ≤ x) (h0 : 0 ≤ x.toInt) : vp_in ((((2560 : Int32) * S 0 4) + ((64 : Int32) * y)) + x) 10240 :=
  pg_iy ((hok 0 4).1 rfl (Or.inl rfl)) (gw_inB (by decide) h h0) hy
theorem rb_h {v a b : Int32} (e : v = a - b) (hh : ¬ a = b) : ¬ v.toInt64 = 0 := by
  intro q
  have h1 : v.toInt64.toInt = v.toInt := by simp
  rw [q] at h1
  have h2 : (0 : Int64).toInt = 0 := rfl
  have h3 : v = 0 := Int32.toInt_inj.mp (by rw [Int32.toInt_zero]; omega)
  rw [h3] at e
  have h4 : a - b + b = 0 + b := by rw [← e]
  rw [Int32.sub_add_cancel, Int32.zero_add] at h4
  exact hh h4
theorem rb_hh {r a b : Int32} (h1 : ¬ r < a) (h2 : ¬ b ≤ r) : ¬ b = a := by
  intro q
  subst q
  rw [Int32.lt_iff_toInt_lt] at h1
  rw [Int32.le_iff_toInt_le] at h2
  omega
theorem rb_ne8 {x : Int32} (h : vp_in x 9) (hn : ¬ x = (8 : Int32)) : vp_in x 8 := by
  rw [vp_in_iff] at h ⊢
  have h1 := gw_ne hn
  rw [show (8 : Int32).toInt = 8 from rfl] at h1
  omega
theorem rb_pi {w m : Int32} (hw : vp_in w 16) (hm : vp_in m 8) : vp_in (((8 : Int32) * w) + m) 128 := by
  obtain ⟨a, ha, rfl⟩ := vp_in_of hw (by decide)
  obtain ⟨b, hb, rfl⟩ := vp_in_of hm (by decide)
  rw [show (8 : Int32) = nI 8 from rfl, pk_mul, nI_add]
  exact vp_in_nI (by omega) (by decide)
theorem rb_pile {S : gw_S} (h : rOK S) (hn : ¬ S 6 (S 0 17).toNatClampNeg = (8 : Int32)) : vp_in (((8 : Int32) * S 0 17) + S 6 (S 0 17).toNatClampNeg) 128 :=
  rb_pi ((h 0 17).2.1 rfl rfl) (rb_ne8 ((h 6 _).2.2.2.1 rfl) hn)
theorem rb_m1 {S S' : gw_S} {i : Nat} {x : Int32} (e : S' = gw_u S 11 i x) (h : rOK S) (hn : ¬ S 6 (S 0 17).toNatClampNeg = (8 : Int32)) : vp_in (S' 6 (S' 0 17).toNatClampNeg + (1 : Int32)) 9 := by
  rw [e, gw_un (a := 0) (by omega), gw_un (a := 6) (by omega)]
  have h1 := rb_ne8 ((h 6 _).2.2.2.1 rfl) hn
  obtain ⟨a, ha, e2⟩ := vp_in_of h1 (by decide)
  rw [e2, nI_1]
  exact vp_in_nI (by omega) (by decide)
theorem rb_m2 {S : gw_S} (h : rOK S) (hn : ¬ S 6 (S 0 17).toNatClampNeg = 0) : vp_in (S 6 (S 0 17).toNatClampNeg - (1 : Int32)) 9 := by
  have h1 : vp_in (S 6 (S 0 17).toNatClampNeg) 9 := (h 6 _).2.2.2.1 rfl
  rw [vp_in_iff] at h1 ⊢
  have h2 := gw_ne hn
  rw [Int32.toInt_zero] at h2
  have h3 : (S 6 (S 0 17).toNatClampNeg - (1 : Int32)).toInt = (S 6 (S 0 17).toNatClampNeg).toInt - 1 := by
    rw [Int32.toInt_sub, show (1 : Int32).toInt = 1 from rfl]
    exact Int.bmod_eq_of_le (by omega) (by omega)
  omega
theorem rb_pile2 {S S' : gw_S} (h : rOK S) (e : S' = gw_u S 6 (S 0 17).toNatClampNeg (S 6 (S 0 17).toNatClampNeg - (1 : Int32))) (hn : ¬ S 6 (S 0 17).toNatClampNeg = 0) : vp_in (((8 : Int32) * S' 0 17) + S' 6 (S' 0 17).toNatClampNeg) 128 := by
  have e1 : S' 0 17 = S 0 17 := by rw [e, gw_un (by omega)]
  have e2 : S' 6 (S 0 17).toNatClampNeg = S 6 (S 0 17).toNatClampNeg - (1 : Int32) := by rw [e, gw_us]
  rw [e1, e2]
  refine rb_pi ((h 0 17).2.1 rfl rfl) ?_
  have h1 : vp_in (S 6 (S 0 17).toNatClampNeg) 9 := (h 6 _).2.2.2.1 rfl
  rw [vp_in_iff] at h1 ⊢
  have h2 := gw_ne hn
  rw [Int32.toInt_zero] at h2
  have h3 : (S 6 (S 0 17).toNatClampNeg - (1 : Int32)).toInt = (S 6 (S 0 17).toNatClampNeg).toInt - 1 := by
    rw [Int32.toInt_sub, show (1 : Int32).toInt = 1 from rfl]
    exact Int.bmod_eq_of_le (by omega) (by omega)
  omega

theorem gw_uo {S : gw_S} {i k a : Nat} {x : Int32} (h : ¬ a = i) : gw_u S i k x a = S a := by
  funext b
  exact gw_un (fun q => h q.1)
def rST (S : gw_S) : Prop := 0 ≤ (S 0 23).toInt ∧ (S 0 23).toInt ≤ 90 ∧ ∀ q : Nat, (q : Int) < (S 0 23).toInt → (q : Int) ≤ 15 * (S 16 q).toInt ∧ 0 ≤ (S 16 q).toInt ∧ (S 16 q).toInt ≤ 5
theorem rWk {S S' : gw_S} {i k : Nat} {x : Int32} {ω : Nat → Int32} (e : S' = gw_u S i k x) (h : S 16 = ω) (hi : i ≠ 16) : S' 16 = ω := by
  rw [e, gw_uo (by omega)]; exact h
theorem rSTk {S S' : gw_S} {i k : Nat} {x : Int32} (e : S' = gw_u S i k x) (h : rST S) (hi : i ≠ 16) (hj : ¬ (0 = i ∧ 23 = k)) : rST S' := by
  have e1 : S' 0 23 = S 0 23 := by rw [e, gw_un (by omega)]
  have e2 : S' 16 = S 16 := by rw [e, gw_uo (by omega)]
  unfold rST at h ⊢
  rw [e1, e2]; exact h
theorem rPt0 {S S' : gw_S} (e : S' = gw_u S 0 23 (0 : Int32)) : vp_in (S' 0 23) 100 := by
  rw [e, gw_us, vp_in_iff]; decide
theorem rb_8 {v a b : Int32} (e : v = a) (h : a = b) (h8 : 0 ≤ b.toInt ∧ b.toInt ≤ 75) : 0 ≤ v.toInt ∧ v.toInt ≤ 75 := by
  rw [e, h]; exact h8
theorem rb_z0 {v a : Int32} (e : v = a) : a = v + (0 : Int32) := by
  rw [Int32.add_zero]; exact e.symm
theorem rb_z1 {a y x : Int32} (h : a = y + x + (1 : Int32)) : a = y + (x + (1 : Int32)) := by
  rw [h, Int32.add_assoc]
theorem rb_i {y x b : Int32} (h8 : 0 ≤ y.toInt ∧ y.toInt ≤ 75) (hl : vp_in b 16) (h : ¬ b ≤ x) (h0 : 0 ≤ x.toInt) : (y + x).toInt = y.toInt + x.toInt ∧ x.toInt ≤ 14 := by
  rw [vp_in_iff] at hl
  rw [Int32.le_iff_toInt_le] at h
  have := gw_addI (a := y) (b := x) (by omega) (by omega)
  omega
theorem rb_pt {a y x b : Int32} (hz : a = y + x) (h8 : 0 ≤ y.toInt ∧ y.toInt ≤ 75) (hl : vp_in b 16) (h : ¬ b ≤ x) (h0 : 0 ≤ x.toInt) : vp_in a 100 := by
  have h1 := rb_i h8 hl h h0
  rw [vp_in_iff, hz]
  omega
theorem rb_half {b : Int32} (hl : vp_in b 16) : (b / (2 : Int32)).toInt = b.toInt / 2 := by
  obtain ⟨a, ha, rfl⟩ := vp_in_of hl (by decide)
  rw [show (2 : Int32) = nI 2 from rfl, pk_div (by omega) (by omega) (by omega), nI_toInt (by omega), nI_toInt (by omega)]
  omega
theorem rb_s1 {y x b : Int32} (h8 : 0 ≤ y.toInt ∧ y.toInt ≤ 75) (hl : vp_in b 16) (h : ¬ b / (2 : Int32) ≤ x) (h0 : 0 ≤ x.toInt) : vp_in (y + x) 100 := by
  have hh := rb_half hl
  rw [vp_in_iff] at hl
  rw [Int32.le_iff_toInt_le, hh] at h
  rw [vp_in_iff, gw_addI (by omega) (by omega)]
  omega
theorem rb_s2 {y x b : Int32} (h8 : 0 ≤ y.toInt ∧ y.toInt ≤ 75) (hl : vp_in b 16) (h : ¬ b / (2 : Int32) ≤ x) (h0 : 0 ≤ x.toInt) : vp_in (((y + b) - (1 : Int32)) - x) 100 := by
  have hh := rb_half hl
  rw [vp_in_iff] at hl
  rw [Int32.le_iff_toInt_le, hh] at h
  have e1 := gw_addI (a := y) (b := b) (by omega) (by omega)
  have e0 : (1 : Int32).toInt = 1 := rfl
  have e2 := gw_subI (a := y + b) (b := (1 : Int32)) (by omega) (by omega)
  have e3 := gw_subI (a := (y + b) - (1 : Int32)) (b := x) (by omega) (by omega)
  rw [vp_in_iff]
  omega
def rSTp (S : gw_S) (a : Int32) : Prop := a.toInt ≤ 15 * (S 16 a.toNatClampNeg).toInt ∧ 0 ≤ (S 16 a.toNatClampNeg).toInt ∧ (S 16 a.toNatClampNeg).toInt ≤ 5
theorem rb_g8 {S T : gw_S} {a : Int32} {ω : Nat → Int32} (hz : T 0 23 = a) (hw : T 16 = ω) (he : ω = S 16) (h5 : ¬ (5 : Int32) ≤ T 16 a.toNatClampNeg) (hb : vp_in a 100) (hs : rSTp S a) : 0 ≤ (T 0 23).toInt ∧ (T 0 23).toInt ≤ 75 := by
  rw [hw, he, Int32.le_iff_toInt_le, show (5 : Int32).toInt = 5 from rfl] at h5
  rw [vp_in_iff] at hb
  unfold rSTp at hs
  rw [hz]
  omega
theorem rb_gs {S T : gw_S} {a : Int32} {ω : Nat → Int32} (hz : T 0 23 = a) (hw : T 16 = ω) (he : ω = S 16) (h5 : ¬ (5 : Int32) ≤ T 16 a.toNatClampNeg) (hs : rSTp S a) : (T 0 23).toInt ≤ 15 * (T 16 a.toNatClampNeg).toInt ∧ 0 ≤ (T 16 a.toNatClampNeg).toInt ∧ (T 16 a.toNatClampNeg).toInt ≤ 4 := by
  rw [hw, he, Int32.le_iff_toInt_le, show (5 : Int32).toInt = 5 from rfl] at h5
  unfold rSTp at hs
  rw [hz, hw, he]
  omega
theorem rST_pop {S S' : gw_S} (e : S' = gw_u S 0 23 (S 0 23 - (1 : Int32))) (h : rST S) (hp : ¬ S 0 23 ≤ 0) : (S' 0 23).toInt = (S 0 23).toInt - 1 ∧ rST S' ∧ rSTp S' (S' 0 23) ∧ vp_in (S' 0 23) 100 := by
  rw [Int32.le_iff_toInt_le, Int32.toInt_zero] at hp
  unfold rST at h
  have e1 : S' 0 23 = S 0 23 - (1 : Int32) := by rw [e, gw_us]
  have e2 : S' 16 = S 16 := by rw [e, gw_uo (by omega)]
  have e0 : (1 : Int32).toInt = 1 := rfl
  have e3 : (S' 0 23).toInt = (S 0 23).toInt - 1 := by rw [e1, gw_subI (by omega) (by omega), e0]
  have hin : vp_in (S' 0 23) 100 := by rw [vp_in_iff]; omega
  obtain ⟨j, hj, ej⟩ := vp_in_of hin (by decide)
  have ej2 : (S' 0 23).toInt = (j : Int) := by rw [ej, nI_toInt (by omega)]
  have hcl : (S' 0 23).toNatClampNeg = j := by rw [ej, nI_clamp (by omega)]
  refine ⟨e3, ?_, ?_, hin⟩
  · unfold rST
    rw [e2]
    exact ⟨by omega, by omega, fun q hq => h.2.2 q (by omega)⟩
  · unfold rSTp
    rw [hcl, e2]
    have := h.2.2 j (by omega)
    omega
theorem rST_push {S S' : gw_S} {w : Int32} (h : rST S) (hp : (S 0 23).toInt ≤ 89) (hw : (S 0 23).toInt ≤ 15 * w.toInt) (hw0 : 0 ≤ w.toInt) (hw5 : w.toInt ≤ 5) (e1 : S' 0 23 = S 0 23 + (1 : Int32)) (e2 : S' 16 = upd (S 16) (S 0 23).toNatClampNeg w) : rST S' := by
  unfold rST at h ⊢
  have e0 : (1 : Int32).toInt = 1 := rfl
  have e3 : (S' 0 23).toInt = (S 0 23).toInt + 1 := by rw [e1, gw_addI (by omega) (by omega), e0]
  have hin : vp_in (S 0 23) 100 := by rw [vp_in_iff]; omega
  obtain ⟨j, hj, ej⟩ := vp_in_of hin (by decide)
  have ej2 : (S 0 23).toInt = (j : Int) := by rw [ej, nI_toInt (by omega)]
  have hcl : (S 0 23).toNatClampNeg = j := by rw [ej, nI_clamp (by omega)]
  rw [e2, hcl]
  refine ⟨by omega, by omega, fun q hq => ?_⟩
  by_cases c : q = j
  · subst c
    rw [pk_us]; omega
  · rw [pk_un c]
    exact h.2.2 q (by omega)
theorem rST_one {S S' : gw_S} (hz : S 0 23 = 0) (e1 : S' 0 23 = S 0 23 + (1 : Int32)) (e2 : S' 16 = upd (S 16) (S 0 23).toNatClampNeg (0 : Int32)) : rST S' := by
  refine rST_push (S := S) (w := (0 : Int32)) ?_ ?_ ?_ (by decide) (by decide) e1 e2
  · unfold rST; rw [hz, Int32.toInt_zero]; exact ⟨by omega, by omega, fun q hq => absurd hq (by omega)⟩
  · rw [hz, Int32.toInt_zero]; omega
  · rw [hz, Int32.toInt_zero]; omega
theorem rNz {S S' : gw_S} {a : Int32} (e : S' = gw_u S 0 14 ((S 0 14) + (1 : Int32))) (h : S 0 14 = a) : S' 0 14 = a + (1 : Int32) := by rw [e, gw_us, h]
theorem rDz {S S' : gw_S} {x : Int32} (e : S' = gw_u S 0 21 x) : S' 0 21 = x := by rw [e, gw_us]
theorem rDz23 {S S' : gw_S} {x : Int32} (e : S' = gw_u S 0 23 x) : S' 0 23 = x := by rw [e, gw_us]
theorem rb_lz {a b c : Int32} (h : a = b + (1 : Int32)) (e : b = c) : a = c + (1 : Int32) := by rw [h, e]
theorem rb_s8 {v a b w : Int32} (e : v = a) (h : a = b) (hs : b.toInt ≤ 15 * w.toInt ∧ 0 ≤ w.toInt ∧ w.toInt ≤ 4) : v.toInt ≤ 15 * w.toInt ∧ 0 ≤ w.toInt ∧ w.toInt ≤ 4 := by
  rw [e, h]; exact hs
theorem rb_st {S U : gw_S} {y x b w : Int32} (h : rST S) (hz : S 0 23 = y + x) (h8 : 0 ≤ y.toInt ∧ y.toInt ≤ 75) (hl : vp_in b 16) (hc : ¬ b ≤ x) (h0 : 0 ≤ x.toInt) (hs : y.toInt ≤ 15 * w.toInt ∧ 0 ≤ w.toInt ∧ w.toInt ≤ 4) (e1 : U 0 23 = S 0 23 + (1 : Int32)) (e2 : U 16 = upd (S 16) (S 0 23).toNatClampNeg (w + (1 : Int32))) : rST U := by
  have h1 := rb_i h8 hl hc h0
  have h2 := gw_add1 (i := w) (by omega)
  have h3 : (S 0 23).toInt = y.toInt + x.toInt := by rw [hz]; exact h1.1
  exact rST_push h (by omega) (by omega) (by omega) (by omega) e1 e2
theorem rb_dr {S S1 U : gw_S} {x : Int32} {n : Nat} (h : ¬ (200 : Int32) ≤ S 0 21) (hf : 200 - (S 0 21).toInt < ((n + 1 : Nat) : Int)) (e : S1 = gw_u S 0 23 x) (hu : U 0 21 = S1 0 21 + (1 : Int32)) : 0 < n ∧ 200 - (U 0 21).toInt < (n : Int) := by
  have e1 : S1 0 21 = S 0 21 := by rw [e, gw_un (by omega)]
  rw [Int32.le_iff_toInt_le, show (200 : Int32).toInt = 200 from rfl] at h
  rw [hu, e1, gw_add1 (by omega)]
  omega

