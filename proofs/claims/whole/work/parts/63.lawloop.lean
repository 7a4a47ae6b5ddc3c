theorem gl_tableOut {X : gx_M} {l : Launch} {D : va_G} {cI cB cC cZ : ClassId} {ad ad' : Nat → Nat} {A : Nat → Prop} {b L : Nat} {xs : Nat → Int32} {k n : Nat} {Q : State → Prop} {S T : gw_S} {pc : Nat} {lv : List (Nat × Value)} {rest : List Value} (F : gl_F X l D cI cB cC cZ ad ad' A b L xs) {dflt lo hi : Int} {offs : Array Int} {len : Nat} {x : Int32} {tgt : Nat} (hd : decode code pc = .ok (.tableswitch dflt lo hi offs, len)) (h : x.toInt < lo ∨ hi < x.toInt) (ht : (pc : Int) + dflt = (tgt : Int)) (kk : gl_V X D cI cB cC cZ ad ad' A k n Q S T tgt lv rest) : gl_V X D cI cB cC cZ ad ad' A k n Q S T pc lv (.int x :: rest) := fun H locs ls hP hS hl => lv_tableOut F.1 F.2.1 hd h ht (kk H locs ls hP hS hl)
theorem gl_tableIn {X : gx_M} {l : Launch} {D : va_G} {cI cB cC cZ : ClassId} {ad ad' : Nat → Nat} {A : Nat → Prop} {b L : Nat} {xs : Nat → Int32} {k n : Nat} {Q : State → Prop} {S T : gw_S} {pc : Nat} {lv : List (Nat × Value)} {rest : List Value} (F : gl_F X l D cI cB cC cZ ad ad' A b L xs) {dflt lo hi : Int} {offs : Array Int} {len : Nat} {x y : Int32} {off : Int} {tgt : Nat} (hd : decode code pc = .ok (.tableswitch dflt lo hi offs, len)) (hx : x = y) (h1 : ¬ y.toInt < lo) (h2 : ¬ hi < y.toInt) (ho : offs[(y.toInt - lo).toNat]? = some off) (ht : (pc : Int) + off = (tgt : Int)) (kk : gl_V X D cI cB cC cZ ad ad' A k n Q S T tgt lv rest) : gl_V X D cI cB cC cZ ad ad' A k n Q S T pc lv (.int x :: rest) := fun H locs ls hP hS hl => lv_tableIn F.1 F.2.1 hd (hx ▸ h1) (hx ▸ h2) (hx ▸ ho) ht (kk H locs ls hP hS hl)
theorem gl_loop {X : gx_M} {l : Launch} {D : va_G} {cI cB cC cZ : ClassId} {ad ad' : Nat → Nat} {A : Nat → Prop} {b L : Nat} {xs : Nat → Int32} {k n : Nat} {Q : State → Prop} (F : gl_F X l D cI cB cC cZ ad ad' A b L xs) (hL : L ≤ 2048) (hkc : k ≤ room_1.cells ∧ n ≤ room_1.slots) (hend : ∀ (S T : gw_S) (lv : List (Nat × Value)), gl_V X D cI cB cC cZ ad ad' A k n Q S T 377 lv []) : ∀ (q : Nat) (S T : gw_S) (j : Nat), j ≤ 2052 → L < j + 4 * q → eY S T → gl_V X D cI cB cC cZ ad ad' A k n Q S T 18 [(3, .int (nI j)), (0, .ref b), (1, .ref (ad 0)), (2, .ref (ad' 0))] [] := by
  intro q
  have h4 : (4 : Int32).toInt = 4 := rfl
  have hLI : (Int32.ofNat L).toInt = (L : Int) := nI_toInt (n := L) (by omega)
  have hL4 : (Int32.ofNat L - (4 : Int32)).toInt = (L : Int) - 4 := by rw [gw_subI (by omega) (by omega), hLI, h4]
  induction q with
  | zero =>
    intro S T j hj hq h
    have hjI : (nI j).toInt = (j : Int) := nI_toInt (by omega)
    refine gl_iload_n F 0 d_law_18 rfl rfl ?_
    refine gl_aload_n F 1 d_law_19 rfl rfl ?_
    refine gl_slen F d_law_20 ?_
    refine gl_iconst (v := (4 : Int32)) F d_law_21 (by decide) ?_
    refine gl_isub F d_law_22 ?_
    refine gl_gt (tgt := 377) F d_law_23 (by decide) (fun _ => hend S T _) (fun c => ?_)
    rw [Int32.lt_iff_toInt_lt, hL4, hjI] at c
    omega
  | succ q ih =>
    intro S T j hj hq h
    have hjI : (nI j).toInt = (j : Int) := nI_toInt (by omega)
    refine gl_iload_n F 0 d_law_18 rfl rfl ?_
    refine gl_aload_n F 1 d_law_19 rfl rfl ?_
    refine gl_slen F d_law_20 ?_
    refine gl_iconst (v := (4 : Int32)) F d_law_21 (by decide) ?_
    refine gl_isub F d_law_22 ?_
    refine gl_gt (tgt := 377) F d_law_23 (by decide) (fun _ => hend S T _) (fun c => ?_)
    rw [Int32.lt_iff_toInt_lt, hL4, hjI] at c
    have v : ∀ t : Nat, t < 4 → vp_in (nI (j + t)) L := fun t ht => vp_in_iff.mpr (by rw [nI_toInt (by omega)]; omega)
    have v0 : vp_in (nI j) L := v 0 (by omega)
    have v1 : vp_in (nI j + (1 : Int32)) L := by rw [nI_1]; exact v 1 (by omega)
    have v2 : vp_in (nI j + (2 : Int32)) L := by rw [show (2 : Int32) = nI 2 from rfl, nI_add]; exact v 2 (by omega)
    have v3 : vp_in (nI j + (3 : Int32)) L := by rw [show (3 : Int32) = nI 3 from rfl, nI_add]; exact v 3 (by omega)
    have e4 : nI j + Int32.ofInt 4 = nI (j + 4) := nI_add j 4
    have nx : ∀ S' T' : gw_S, eY S' T' → gl_V X D cI cB cC cZ ad ad' A k n Q S' T' 371 [(3, .int (nI j)), (0, .ref b), (1, .ref (ad 0)), (2, .ref (ad' 0))] [] := fun S' T' h' => by
      refine gl_iinc (v := nI (j + 4)) (lv' := [(3, .int (nI (j + 4))), (0, .ref b), (1, .ref (ad 0)), (2, .ref (ad' 0))]) F 0 d_law_371 rfl e4 (by decide) rfl ?_
      refine gl_goto (tgt := 18) F d_law_374 (by decide) ?_
      exact ih S' T' (j + 4) (by omega) (by omega) h'
    refine gl_aload_n F 1 d_law_26 rfl rfl ?_
    refine gl_iload_n F 0 d_law_27 rfl rfl ?_
    refine gl_sld F v0 d_law_28 ?_
    refine gl_bipush (v := (15 : Int32)) F d_law_29 (by decide) ?_
    refine gl_iand F d_law_31 ?_
    generalize xs (nI j).toNatClampNeg &&& (15 : Int32) = x
    by_cases x0 : x = (0 : Int32)
    · exact gl_tableIn (tgt := 84) F d_law_32 x0 (by decide) (by decide) rfl (by decide) (gl_put F h v1 v2 v3 hkc nx)
    by_cases x1 : x = (1 : Int32)
    · exact gl_tableIn (tgt := 127) F d_law_32 x1 (by decide) (by decide) rfl (by decide) (gl_byteAt F h v1 v2 v3 hkc nx)
    by_cases x2 : x = (2 : Int32)
    · exact gl_tableIn (tgt := 160) F d_law_32 x2 (by decide) (by decide) rfl (by decide) (gl_set F h v1 v2 v3 hkc nx)
    by_cases x3 : x = (3 : Int32)
    · exact gl_tableIn (tgt := 193) F d_law_32 x3 (by decide) (by decide) rfl (by decide) (gl_get F h v1 v2 v3 hkc nx)
    by_cases x4 : x = (4 : Int32)
    · exact gl_tableIn (tgt := 216) F d_law_32 x4 (by decide) (by decide) rfl (by decide) (gl_ask F h v1 v2 v3 hkc nx)
    by_cases x5 : x = (5 : Int32)
    · exact gl_tableIn (tgt := 249) F d_law_32 x5 (by decide) (by decide) rfl (by decide) (gl_frame F h v1 v2 v3 hkc nx)
    by_cases x6 : x = (6 : Int32)
    · exact gl_tableIn (tgt := 272) F d_law_32 x6 (by decide) (by decide) rfl (by decide) (gl_channel F h v1 v2 v3 hkc nx)
    by_cases x7 : x = (7 : Int32)
    · exact gl_tableIn (tgt := 305) F d_law_32 x7 (by decide) (by decide) rfl (by decide) (gl_pixel F h v1 v2 v3 hkc nx)
    by_cases x8 : x = (8 : Int32)
    · exact gl_tableIn (tgt := 348) F d_law_32 x8 (by decide) (by decide) rfl (by decide) (gl_about F h v1 v2 v3 hkc nx)
    have ne : ∀ c : Int32, ¬ x = c → x.toInt ≠ c.toInt := fun c hc e => hc (Int32.toInt_inj.mp e)
    have y0 : x.toInt ≠ 0 := ne (0 : Int32) x0
    have y1 : x.toInt ≠ 1 := ne (1 : Int32) x1
    have y2 : x.toInt ≠ 2 := ne (2 : Int32) x2
    have y3 : x.toInt ≠ 3 := ne (3 : Int32) x3
    have y4 : x.toInt ≠ 4 := ne (4 : Int32) x4
    have y5 : x.toInt ≠ 5 := ne (5 : Int32) x5
    have y6 : x.toInt ≠ 6 := ne (6 : Int32) x6
    have y7 : x.toInt ≠ 7 := ne (7 : Int32) x7
    have y8 : x.toInt ≠ 8 := ne (8 : Int32) x8
    exact gl_tableOut (tgt := 371) F d_law_32 (by omega) (by decide) (nx S T h)
