theorem y_put25 {b : Nat} {a1 a2 a3 : Int32} (hb : (b = 2 ∧ a1 = 0) ∨ (b = 7 ∧ ¬ a1 = 0)) (h2 : vp_in a2 1021) : ∀ (n : Nat) (S T : gw_S) (x : Int32), 0 ≤ x.toInt → eV S T → (fl_SM_put_28 b a2 a3 n S x).1 = (fl_Model_put_25 a1 a2 a3 n T x).1 ∧ eV (fl_SM_put_28 b a2 a3 n S x).2 (fl_Model_put_25 a1 a2 a3 n T x).2 := by
  intro n
  induction n with
  | zero => intro S T x _ h; exact ⟨rfl, h⟩
  | succ n ih =>
    intro S T x h0 h
    by_cases c : (4 : Int32) ≤ x
    · have u1 : fl_SM_put_28 b a2 a3 (n + 1) S x = ((1 : Int32), S) := if_pos c
      have u2 : fl_Model_put_25 a1 a2 a3 (n + 1) T x = ((1 : Int32), T) := if_pos c
      rw [u1, u2]; exact ⟨rfl, h⟩
    · have hm := eA (gw_in4 h2 c h0)
      have u1 : fl_SM_put_28 b a2 a3 (n + 1) S x = fl_SM_put_28 b a2 a3 n (gw_u S (b + 1) ((a2 + x) &&& (1023 : Int32)).toNatClampNeg ((a3 >>> (((24 : Int32) - ((8 : Int32) * x)) &&& 31)) &&& (255 : Int32))) (x + (1 : Int32)) := if_neg c
      rw [u1, hm]
      rcases hb with ⟨rfl, ha⟩ | ⟨rfl, ha⟩
      · have u2 : fl_Model_put_25 a1 a2 a3 (n + 1) T x = fl_Model_put_25 a1 a2 a3 n (gw_u T 1 (a2 + x).toNatClampNeg ((a3 >>> (((24 : Int32) - ((8 : Int32) * x)) &&& 31)) &&& (255 : Int32))) (x + (1 : Int32)) := (if_neg c).trans (if_pos ha)
        rw [u2]
        exact ih _ _ _ (gw_stp0 c h0) (eV_m h (eL3 _) (by omega) (by omega) (by omega) (by omega))
      · have u2 : fl_Model_put_25 a1 a2 a3 (n + 1) T x = fl_Model_put_25 a1 a2 a3 n (gw_u T 2 (a2 + x).toNatClampNeg ((a3 >>> (((24 : Int32) - ((8 : Int32) * x)) &&& 31)) &&& (255 : Int32))) (x + (1 : Int32)) := (if_neg c).trans (if_neg ha)
        rw [u2]
        exact ih _ _ _ (gw_stp0 c h0) (eV_m h (eL8 _) (by omega) (by omega) (by omega) (by omega))
theorem y_put {S T : gw_S} {a b v : Int32} (h : eY S T) : (f_SM_put S a b v).1 = (f_Model_put T a b v).1 ∧ eY (f_SM_put S a b v).2 (f_Model_put T a b v).2 := by
  have ho := po_ok_SM_put S a b v h.2.2
  have hr := po_ok_Model_put T a b v h.2.1
  by_cases c : 0 ≤ a.toInt ∧ a.toInt < 2
  · by_cases c2 : 0 ≤ b.toInt ∧ b.toInt < 1021
    · have u2 : f_Model_put T a b v = fl_Model_put_25 a b v (gw_fu (((4 : Int32) : Int32).toInt - ((0 : Int32) : Int32).toInt)) T (0 : Int32) := by
        unfold f_Model_put
        rw [u_in T a (L := 0) (N := 2) rfl rfl, if_pos c, gw_bm (x := (1 : Int32)) (S := T), if_neg y_10, u_in T b (L := 0) (N := 1021) rfl rfl, if_pos c2, gw_bm (x := (1 : Int32)) (S := T), if_neg y_10]
      have hb := y_rng c2 (m := (1020 : Int32)) rfl
      by_cases c3 : a = 0
      · have u1 : f_SM_put S a b v = fl_SM_put_28 2 b v (gw_fu (((4 : Int32) : Int32).toInt - ((0 : Int32) : Int32).toInt)) S (0 : Int32) := by
          unfold f_SM_put
          rw [if_pos c3, if_neg hb.1, if_pos hb.2]
        rw [u1] at ho ⊢; rw [u2] at hr ⊢
        obtain ⟨r1, r2⟩ := y_put25 (a3 := v) (Or.inl ⟨rfl, c3⟩) (vp_in_iff.mpr c2) (gw_fu (((4 : Int32) : Int32).toInt - ((0 : Int32) : Int32).toInt)) S T (0 : Int32) (by decide) h.1
        exact ⟨r1, r2, hr, ho⟩
      · have c4 : a = 1 := by
          apply Int32.toInt_inj.mp
          have := gw_ne c3
          rw [Int32.toInt_zero] at this
          rw [show (1 : Int32).toInt = 1 from rfl]; omega
        have u1 : f_SM_put S a b v = fl_SM_put_28 7 b v (gw_fu (((4 : Int32) : Int32).toInt - ((0 : Int32) : Int32).toInt)) S (0 : Int32) := by
          unfold f_SM_put
          rw [if_neg c3, if_pos c4, if_neg hb.1, if_pos hb.2]
        rw [u1] at ho ⊢; rw [u2] at hr ⊢
        obtain ⟨r1, r2⟩ := y_put25 (a3 := v) (Or.inr ⟨rfl, c3⟩) (vp_in_iff.mpr c2) (gw_fu (((4 : Int32) : Int32).toInt - ((0 : Int32) : Int32).toInt)) S T (0 : Int32) (by decide) h.1
        exact ⟨r1, r2, hr, ho⟩
    · have u2 : f_Model_put T a b v = ((0 : Int32), T) := by
        unfold f_Model_put
        rw [u_in T a (L := 0) (N := 2) rfl rfl, if_pos c, gw_bm (x := (1 : Int32)) (S := T), if_neg y_10, u_in T b (L := 0) (N := 1021) rfl rfl, if_neg c2]; rfl
      have hn : ∀ X : Int32 × gw_S, (if b < 0 then ((0 : Int32), S) else (if b ≤ (1020 : Int32) then X else ((0 : Int32), S))) = ((0 : Int32), S) := by
        intro X
        by_cases d : b < 0
        · rw [if_pos d]
        · rw [if_neg d]
          rw [Int32.lt_iff_toInt_lt, Int32.toInt_zero] at d
          rw [if_neg (by rw [Int32.le_iff_toInt_le, show (1020 : Int32).toInt = 1020 from rfl]; omega)]
      have u1 : f_SM_put S a b v = ((0 : Int32), S) := by
        unfold f_SM_put
        rw [hn, hn]
        split
        · rfl
        · split <;> rfl
      rw [u1, u2]; exact ⟨rfl, h⟩
  · have n0 : ¬ a = 0 := fun q => c (by rw [q, Int32.toInt_zero]; omega)
    have n1 : ¬ a = 1 := fun q => c (by rw [q, show (1 : Int32).toInt = 1 from rfl]; omega)
    have u2 : f_Model_put T a b v = ((0 : Int32), T) := by
      unfold f_Model_put
      rw [u_in T a (L := 0) (N := 2) rfl rfl, if_neg c]; rfl
    have u1 : f_SM_put S a b v = ((0 : Int32), S) := by
      unfold f_SM_put
      rw [if_neg n0, if_neg n1]
    rw [u1, u2]; exact ⟨rfl, h⟩
theorem y_frame_open (hD : ∀ (j : Nat) (S T : gw_S), eQ j S T → eG j (f_Player_draw S).2 (f_Model_draw T).2) {S T : gw_S} {a : Int32} (h : eY S T) : (f_SM_frame S a).1 = (f_Model_frame T a).1 ∧ eY (f_SM_frame S a).2 (f_Model_frame T a).2 := by
  have ho := po_ok_SM_frame S a h.2.2
  have hr := po_ok_Model_frame T a h.2.1
  by_cases c : 1 ≤ a.toInt ∧ a.toInt < 501
  · have d1 : ¬ a < (1 : Int32) := by rw [Int32.lt_iff_toInt_lt, show (1 : Int32).toInt = 1 from rfl]; omega
    have d2 : a ≤ (500 : Int32) := by rw [Int32.le_iff_toInt_le, show (500 : Int32).toInt = 500 from rfl]; omega
    have u1 : f_SM_frame S a = fl_SM_frame_41 a (gw_fu (((16 : Int32) : Int32).toInt - ((0 : Int32) : Int32).toInt)) (gw_u (gw_u (gw_u (gw_u S 0 1 (S 0 1 + (1 : Int32))) 0 2 (0 : Int32)) 6 6 (0 : Int32)) 6 7 (0 : Int32)) (0 : Int32) := by
      unfold f_SM_frame
      rw [if_neg d1, if_pos d2]; rfl
    have u2 : f_Model_frame T a = fl_Model_frame_46 a (gw_fu (((16 : Int32) : Int32).toInt - ((0 : Int32) : Int32).toInt)) (fl_Model_settle_2 (gw_fu (((16 : Int32) : Int32).toInt - ((0 : Int32) : Int32).toInt)) (gw_u (gw_u (gw_u (gw_u T 0 13 (T 0 13 + (1 : Int32))) 0 14 (0 : Int32)) 0 15 (0 : Int32)) 0 16 (0 : Int32)) (0 : Int32)).2 (0 : Int32) (0 : Int32) := by
      unfold f_Model_frame
      rw [u_in T a (L := 1) (N := 501) rfl rfl, if_pos c, gw_bm (x := (1 : Int32)) (S := T), if_neg y_10]; rfl
    have hv : eV (gw_u (gw_u (gw_u (gw_u S 0 1 (S 0 1 + (1 : Int32))) 0 2 (0 : Int32)) 6 6 (0 : Int32)) 6 7 (0 : Int32)) (gw_u (gw_u (gw_u (gw_u T 0 13 (T 0 13 + (1 : Int32))) 0 14 (0 : Int32)) 0 15 (0 : Int32)) 0 16 (0 : Int32)) := by
      have e1 : gw_u (gw_u (gw_u (gw_u T 0 13 (T 0 13 + (1 : Int32))) 0 14 (0 : Int32)) 0 15 (0 : Int32)) 0 16 (0 : Int32) = gw_u (gw_u (gw_u (gw_u T 0 13 (T 0 13 + (1 : Int32))) 0 14 (0 : Int32)) 0 16 (0 : Int32)) 0 15 (0 : Int32) := by
        funext i k
        by_cases q1 : i = 0 ∧ k = 15
        · obtain ⟨rfl, rfl⟩ := q1
          rw [gw_un (by omega), gw_us, gw_us]
        · by_cases q2 : i = 0 ∧ k = 16
          · obtain ⟨rfl, rfl⟩ := q2
            rw [gw_us, gw_un (by omega), gw_us]
          · rw [gw_un q2, gw_un q1, gw_un q1, gw_un q2]
      rw [e1]
      have ef : S 0 1 = T 0 13 := eR_g h.1.1.1 eL01
      rw [ef]
      have hb : eV (gw_u (gw_u S 0 1 (T 0 13 + (1 : Int32))) 0 2 (0 : Int32)) (gw_u (gw_u T 0 13 (T 0 13 + (1 : Int32))) 0 14 (0 : Int32)) := by
        refine ⟨⟨eR_y (eR_0 (eR_m h.1.1.1 eL01) (by omega)) (by omega), fun k hk => ?_⟩, ?_⟩
        · rw [gw_un (by omega), gw_un (by omega), gw_un (by omega), gw_un (by omega)]; exact h.1.1.2 k hk
        · rw [gw_us, gw_us]
      exact eV_m (eV_m hb eL66 (by omega) (by omega) (by omega) (by omega)) eL67 (by omega) (by omega) (by omega) (by omega)
    have hf := gw_fu_lt (((16 : Int32) : Int32).toInt - ((0 : Int32) : Int32).toInt)
    obtain ⟨S', T', a1, a2, a3, a4⟩ := e_fr41 (cap := a) (Q := fun _ _ => True) (gw_fu (((16 : Int32) : Int32).toInt - ((0 : Int32) : Int32).toInt)) _ _ (0 : Int32) (gw_fu_pos _) hf (by decide) hv
    have hc' : cOK S' := a4 (cOK_o rfl (cOK_o rfl (cOK_o rfl (cOK_o rfl h.2.2 (by omega)) (by omega)) (by omega)) (by omega))
    have hr' : rOK T' := by
      rw [← a2]
      exact po_ok_Model_settle _ (rOK_f rfl (rOK_f rfl (rOK_f rfl (rOK_f rfl h.2.1 (by omega)) (by omega)) (by omega)) (by omega))
    rw [u1, a1] at ho ⊢; rw [u2, a2] at hr ⊢
    obtain ⟨r1, r2⟩ := e_fr69_open hD (cap := a) (gw_fu (((16 : Int32) : Int32).toInt - ((0 : Int32) : Int32).toInt)) S' T' (0 : Int32) (0 : Int32) (gw_fu_pos _) hf (by decide) a3 hr' hc'
    exact ⟨r1, r2, hr, ho⟩
  · have u1 : f_SM_frame S a = ((-1 : Int32), S) := by
      unfold f_SM_frame
      by_cases d : a < (1 : Int32)
      · rw [if_pos d]
      · rw [if_neg d]
        rw [Int32.lt_iff_toInt_lt, show (1 : Int32).toInt = 1 from rfl] at d
        rw [if_neg (by rw [Int32.le_iff_toInt_le, show (500 : Int32).toInt = 500 from rfl]; omega)]
    have u2 : f_Model_frame T a = ((-1 : Int32), T) := by
      unfold f_Model_frame
      rw [u_in T a (L := 1) (N := 501) rfl rfl, if_neg c]; rfl
    rw [u1, u2]; exact ⟨rfl, h⟩
