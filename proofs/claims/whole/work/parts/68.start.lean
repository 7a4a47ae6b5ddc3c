set_option maxHeartbeats 4000000 in
set_option maxRecDepth 100000 in
/-- YOUR PART: from the entry, for every script of at most 2048 ints, the law comes to its end with true -/
theorem whole_start {p : Program} {e : Env} {s : State} {m : MethodId} {below : List Frame} {meth : Method} {c : Code} (l : Launch) {b L : Nat} {xs : Nat → Int32} (hL : L ≤ 2048) (C0 : lw_At p s m meth c b L xs) : W p l e room_1 s m #[Value.ref b] below meth c s.heap [] 0 0 (lw_Z below #[Value.ref b] s) (entryFrame m ([Value.ref b] : List Value).toArray 4) := by
  obtain ⟨hx, hb, hret, hml, hown, hts0, hX, hbl, hlk, -⟩ := C0
  have hts : ∀ w ∈ gTs, w.before #[Value.ref b] s = true := fun w hw => hts0 w (List.mem_filter.mp hw).1
  have hO : va_AO "StageMachine$Channel" s := va_AO.of (hts0 _ gE_over)
  obtain ⟨D, hK0⟩ := gl_cls hts
  obtain ⟨cI, cB, cC, cZ, hK⟩ := gl_tys hts hK0 hO
  have F : gE_F (p, l, e, room_1, s, m, #[Value.ref b], below, meth, c) l D (gTys cI cB cC cZ) (fun q => s.heap.size ≤ q) := ⟨hx, hb, hml, hown, hts, rfl, rfl, hK, fun q h => h, hO⟩
  have G : gi_V (p, l, e, room_1, s, m, #[Value.ref b], below, meth, c) D (fun q => s.heap.size ≤ q) 4 (lw_Z below #[Value.ref b] s) [] 0 0 0 [(0, .ref b)] [] := by
    refine gE_make F (c_SM_init (l := l) (D := D) (cI := cI) (cB := cB) (cC := cC) (cZ := cZ)) cw_SM_init ci_SM_init rfl tw_13 cin_SM cty_SM ctk_SM tw_11 tw_12 tw_1 rfl (fun j hj => by rcases (show j = 0 ∨ j = 1 ∨ j = 2 by omega) with rfl | rfl | rfl <;> rfl) rfl rfl ⟨Nat.le_of_ble_eq_true rfl, Nat.le_of_ble_eq_true rfl⟩ (Nat.le_of_ble_eq_true rfl) (Nat.le_of_ble_eq_true rfl) (Nat.le_of_ble_eq_true rfl) d_law_0 d_law_3 d_law_4 (fun q1 w1 hw1 => ?_)
    refine gE_ast (lv' := [(1, .ref q1), (0, .ref b)]) F d_law_7 rfl (by decide) rfl ?_
    refine gE_make F (c_Model_init (l := l) (D := D) (cI := cI) (cB := cB) (cC := cC) (cZ := cZ)) cw_Model_init ci_Model_init rfl tw_403 rin_Model rty_Model rtk_Model tw_401 tw_402 tw_7 rfl (fun j hj => by rcases (show j = 0 ∨ j = 1 ∨ j = 2 ∨ j = 3 ∨ j = 4 ∨ j = 5 ∨ j = 6 ∨ j = 7 ∨ j = 8 ∨ j = 9 ∨ j = 10 ∨ j = 11 ∨ j = 12 ∨ j = 13 ∨ j = 14 ∨ j = 15 ∨ j = 16 ∨ j = 17 ∨ j = 18 ∨ j = 19 ∨ j = 20 ∨ j = 21 ∨ j = 22 ∨ j = 23 ∨ j = 24 ∨ j = 25 ∨ j = 26 ∨ j = 27 ∨ j = 28 ∨ j = 29 ∨ j = 30 ∨ j = 31 ∨ j = 32 by omega) with rfl | rfl | rfl | rfl | rfl | rfl | rfl | rfl | rfl | rfl | rfl | rfl | rfl | rfl | rfl | rfl | rfl | rfl | rfl | rfl | rfl | rfl | rfl | rfl | rfl | rfl | rfl | rfl | rfl | rfl | rfl | rfl | rfl <;> rfl) rfl rfl ⟨Nat.le_of_ble_eq_true rfl, Nat.le_of_ble_eq_true rfl⟩ (Nat.le_of_ble_eq_true rfl) (Nat.le_of_ble_eq_true rfl) (Nat.le_of_ble_eq_true rfl) d_law_8 d_law_11 d_law_12 (fun q2 w2 hw2 => ?_)
    refine gE_ast (lv' := [(2, .ref q2), (1, .ref q1), (0, .ref b)]) F d_law_15 rfl (by decide) rfl ?_
    refine gE_ico (v := (0 : Int32)) F d_law_16 (by decide) ?_
    refine gE_ist (lv' := [(3, .int 0), (2, .ref q2), (1, .ref q1), (0, .ref b)]) F d_law_17 rfl (by decide) rfl ?_
    intro H locs ls hP hD hS hl
    rw [List.nil_append] at hP hD
    have hc : ∃ ad : Nat → Nat, ad 0 = q1 ∧ gw_P D gCl 46 ad (cE ad cI cB cC) c_S0 H ∧ gw_J 46 ad ∧ ∀ i, i < 46 → gE_In w1 (ad i) := by
      obtain ⟨r0, r1, r2, r3, r4, r5, r6, r7, r8, r9, r10, r11, r12, r13, r14, r15, r16, r17, r18, r19, r20, r21, r22, r23, r24, r25, r26, r27, r28, r29, r30, r31, r32, r33, r34, r35, r36, r37, r38, r39, r40, r41, r42, r43, r44, rfl⟩ := hw1
      obtain ⟨a1, a2, a3⟩ := c_world (cI := cI) (cB := cB) (cC := cC) (cZ := cZ) (gE_Pl hP) (gE_Dl hD)
      exact ⟨_, rfl, a1, a2, a3⟩
    have hr : ∃ ad' : Nat → Nat, ad' 0 = q2 ∧ gw_P D gCl 20 ad' (rE ad' cI cB cZ) r_S0 H ∧ gw_J 20 ad' ∧ ∀ i, i < 20 → gE_In w2 (ad' i) := by
      obtain ⟨r0, r1, r2, r3, r4, r5, r6, r7, r8, r9, r10, r11, r12, r13, r14, r15, r16, r17, r18, rfl⟩ := hw2
      obtain ⟨a1, a2, a3⟩ := r_world (cI := cI) (cB := cB) (cC := cC) (cZ := cZ) (gE_Pr hP) (gE_Dr hD)
      exact ⟨_, rfl, a1, a2, a3⟩
    obtain ⟨ad, e1, c1, c2, c3⟩ := hc
    obtain ⟨ad', e2, r1, r2, r3⟩ := hr
    have FL : gl_F (p, l, e, room_1, s, m, #[Value.ref b], below, meth, c) l D cI cB cC cZ ad ad' (fun q => s.heap.size ≤ q) b L xs :=
      ⟨hx, hb, hml, hown, hts, rfl, rfl, hK, ⟨c2, r2⟩, fun i hi j hj => gE_Dx hD (c3 i hi) (r3 j hj), ⟨fun i hi => gE_Al hD (c3 i hi), fun i hi => gE_Ar hD (r3 i hi)⟩, fun q h => h, hX, hbl, Nat.not_le.mpr hbl⟩
    have hend : ∀ (S T : gw_S) (lv : List (Nat × Value)), gl_V (p, l, e, room_1, s, m, #[Value.ref b], below, meth, c) D cI cB cC cZ ad ad' (fun q => s.heap.size ≤ q) (0 + 1 + 45 + 1 + 19) (0 + 3 + 12643 + 33 + 13092) (lw_Z below #[Value.ref b] s) S T 377 lv [] := by
      intro S T lv H1 locs1 ls1 _ hS1 _
      refine lv_iconst hx hb d_law_377 (show Int32.ofInt 1 = (1 : Int32) by decide) ?_
      refine W.widen (k := 600000) (n := 7302250) (Nat.le_of_ble_eq_true rfl) (Nat.le_of_ble_eq_true rfl) ?_
      refine va_forget hS1.2.2 ?_
      exact lw_ret hx hb hret hlk d_law_378
    have hgo := gl_loop FL hL ⟨Nat.le_of_ble_eq_true rfl, Nat.le_of_ble_eq_true rfl⟩ hend 513 c_S0 r_S0 0 (by decide) (by omega) eY_00
    rw [e1, e2] at hgo
    exact hgo H locs ls ⟨c1, r1⟩ hS (lv_sub hl [0, 3, 2, 1] rfl)
  rw [lg_entry_eq]
  exact G s.heap [] _ (fun k q h => by simp at h) ⟨fun i j a b h => by simp at h, fun k q h => by simp at h⟩ va_S.rf (lv_entry ([.ref b] : List Value) (n := 4) (show 1 ≤ 4 by decide))
