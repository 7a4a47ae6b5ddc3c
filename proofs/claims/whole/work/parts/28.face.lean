def eY (S T : gw_S) : Prop := eV S T ∧ rOK T ∧ cOK S
theorem gw_bm {α β γ : Type} {x : α} {S : β} {K : α → β → γ} : gw_b (x, S) K = K x S := rfl
theorem y_10 : ¬ (1 : Int32) = 0 := by decide
theorem u_below (S : gw_S) (a : Int32) {b : Int32} {N : Int} (hb : b.toInt = N) : f_SM_isBelow S a b = ((if 0 ≤ a.toInt ∧ a.toInt < N then (1 : Int32) else 0), S) := by
  unfold f_SM_isBelow
  by_cases c1 : a < 0
  · rw [if_pos c1]
    rw [Int32.lt_iff_toInt_lt, Int32.toInt_zero] at c1
    rw [if_neg (by omega)]
  · rw [if_neg c1]
    rw [Int32.lt_iff_toInt_lt, Int32.toInt_zero] at c1
    by_cases c2 : b ≤ a
    · rw [if_pos c2]
      rw [Int32.le_iff_toInt_le] at c2
      rw [if_neg (by omega)]
    · rw [if_neg c2]
      rw [Int32.le_iff_toInt_le] at c2
      rw [if_pos (by omega)]
theorem u_in (T : gw_S) (a : Int32) {lo hi : Int32} {L N : Int} (hl : lo.toInt = L) (hh : hi.toInt + 1 = N) : f_Model_in T a lo hi = ((if L ≤ a.toInt ∧ a.toInt < N then (1 : Int32) else 0), T) := by
  unfold f_Model_in
  by_cases c1 : a < lo
  · rw [if_pos c1]
    rw [Int32.lt_iff_toInt_lt] at c1
    rw [if_neg (by omega)]
  · rw [if_neg c1]
    rw [Int32.lt_iff_toInt_lt] at c1
    by_cases c2 : hi < a
    · rw [if_pos c2]
      rw [Int32.lt_iff_toInt_lt] at c2
      rw [if_neg (by omega)]
    · rw [if_neg c2]
      rw [Int32.lt_iff_toInt_lt] at c2
      rw [if_pos (by omega)]
theorem eV_m {i k m n : Nat} {S T : gw_S} {x : Int32} (h : eV S T) (g : eL i k m n) (h1 : i ≤ 13 ∨ 30 ≤ i) (h2 : ¬ (i = 0 ∧ k = 2)) (h3 : m ≠ 7) (h4 : ¬ (m = 0 ∧ n = 14)) : eV (gw_u S i k x) (gw_u T m n x) := by
  refine ⟨⟨eR_m h.1.1 g, fun q hq => ?_⟩, ?_⟩
  · rw [gw_un (by omega), gw_un (by omega)]; exact h.1.2 q hq
  · rw [gw_un (by omega), gw_un (by omega)]; exact h.2
theorem y_set {S T : gw_S} {a b : Int32} (h : eY S T) : (f_SM_set S a b).1 = (f_Model_set T a b).1 ∧ eY (f_SM_set S a b).2 (f_Model_set T a b).2 := by
  have ho := po_ok_SM_set S a b h.2.2
  have hr := po_ok_Model_set T a b h.2.1
  by_cases c : 0 ≤ a.toInt ∧ a.toInt < 32
  · have u1 : f_SM_set S a b = ((1 : Int32), gw_u S 4 a.toNatClampNeg b.toInt16.toInt32) := by unfold f_SM_set; rw [u_below S a (N := 32) rfl, if_pos c]; rfl
    have u2 : f_Model_set T a b = ((1 : Int32), gw_u T 3 a.toNatClampNeg b.toInt16.toInt32) := by unfold f_Model_set; rw [u_in T a (L := 0) (N := 32) rfl rfl, if_pos c]; rfl
    rw [u1] at ho ⊢; rw [u2] at hr ⊢
    exact ⟨rfl, eV_m h.1 (eL4 _) (by omega) (by omega) (by omega) (by omega), hr, ho⟩
  · have u1 : f_SM_set S a b = ((0 : Int32), S) := by unfold f_SM_set; rw [u_below S a (N := 32) rfl, if_neg c]; rfl
    have u2 : f_Model_set T a b = ((0 : Int32), T) := by unfold f_Model_set; rw [u_in T a (L := 0) (N := 32) rfl rfl, if_neg c]; rfl
    rw [u1, u2]; exact ⟨rfl, h⟩
theorem y_get {S T : gw_S} {a : Int32} (h : eY S T) : (f_SM_get S a).1 = (f_Model_get T a).1 ∧ eY (f_SM_get S a).2 (f_Model_get T a).2 := by
  by_cases c : 0 ≤ a.toInt ∧ a.toInt < 32
  · have u1 : f_SM_get S a = (S 4 a.toNatClampNeg, S) := by unfold f_SM_get; rw [u_below S a (N := 32) rfl, if_pos c]; rfl
    have u2 : f_Model_get T a = (T 3 a.toNatClampNeg, T) := by unfold f_Model_get; rw [u_in T a (L := 0) (N := 32) rfl rfl, if_pos c]; rfl
    rw [u1, u2]; exact ⟨congrFun (eR_f4 h.1.1.1) _, h⟩
  · have u1 : f_SM_get S a = ((0 : Int32), S) := by unfold f_SM_get; rw [u_below S a (N := 32) rfl, if_neg c]; rfl
    have u2 : f_Model_get T a = ((0 : Int32), T) := by unfold f_Model_get; rw [u_in T a (L := 0) (N := 32) rfl rfl, if_neg c]; rfl
    rw [u1, u2]; exact ⟨rfl, h⟩
theorem y_clp {a : Int32} {N : Nat} (c : 0 ≤ a.toInt ∧ a.toInt < (N : Int)) : a.toNatClampNeg < N := gw_inlt (vp_in_iff.mpr c)
theorem y_ask {S T : gw_S} {a b : Int32} (h : eY S T) : (f_SM_ask S a b).1 = (f_Model_ask T a b).1 ∧ eY (f_SM_ask S a b).2 (f_Model_ask T a b).2 := by
  have ho := po_ok_SM_ask S a b h.2.2
  have hr := po_ok_Model_ask T a b h.2.1
  by_cases c : 0 ≤ a.toInt ∧ a.toInt < 16
  · by_cases d : -1 ≤ b.toInt ∧ b.toInt < 1024
    · have d1 : ¬ b < (-1 : Int32) := by rw [Int32.lt_iff_toInt_lt, show (-1 : Int32).toInt = -1 from rfl]; omega
      have d2 : b ≤ (1023 : Int32) := by rw [Int32.le_iff_toInt_le, show (1023 : Int32).toInt = 1023 from rfl]; omega
      have u1 : f_SM_ask S a b = ((1 : Int32), gw_u S (a.toNatClampNeg + 14) 5 b) := by
        unfold f_SM_ask; rw [u_below S a (N := 16) rfl, if_pos c]
        show (if b < (-1 : Int32) then _ else _ : Int32 × gw_S) = _
        rw [if_neg d1, if_pos d2]; rfl
      have u2 : f_Model_ask T a b = ((1 : Int32), gw_u T 8 a.toNatClampNeg b) := by
        unfold f_Model_ask; rw [u_in T a (L := 0) (N := 16) rfl rfl, if_pos c, gw_bm (x := (1 : Int32)) (S := T), if_neg y_10]
        rw [u_in T b (L := -1) (N := 1024) rfl rfl, if_pos d]; rfl
      rw [u1] at ho ⊢; rw [u2] at hr ⊢
      exact ⟨rfl, eV_ch h.1 (y_clp c) (by omega), hr, ho⟩
    · have u1 : f_SM_ask S a b = ((0 : Int32), S) := by
        unfold f_SM_ask; rw [u_below S a (N := 16) rfl, if_pos c]
        show (if b < (-1 : Int32) then ((0 : Int32), S) else (if b ≤ (1023 : Int32) then _ else ((0 : Int32), S)) : Int32 × gw_S) = _
        by_cases d1 : b < (-1 : Int32)
        · rw [if_pos d1]
        · rw [if_neg d1]
          rw [Int32.lt_iff_toInt_lt, show (-1 : Int32).toInt = -1 from rfl] at d1
          rw [if_neg (by rw [Int32.le_iff_toInt_le, show (1023 : Int32).toInt = 1023 from rfl]; omega)]
      have u2 : f_Model_ask T a b = ((0 : Int32), T) := by
        unfold f_Model_ask; rw [u_in T a (L := 0) (N := 16) rfl rfl, if_pos c, gw_bm (x := (1 : Int32)) (S := T), if_neg y_10]
        rw [u_in T b (L := -1) (N := 1024) rfl rfl, if_neg d]; rfl
      rw [u1, u2]; exact ⟨rfl, h⟩
  · have u1 : f_SM_ask S a b = ((0 : Int32), S) := by unfold f_SM_ask; rw [u_below S a (N := 16) rfl, if_neg c]; rfl
    have u2 : f_Model_ask T a b = ((0 : Int32), T) := by unfold f_Model_ask; rw [u_in T a (L := 0) (N := 16) rfl rfl, if_neg c]; rfl
    rw [u1, u2]; exact ⟨rfl, h⟩
theorem y_about {S T : gw_S} {a : Int32} (h : eY S T) : (f_SM_about S a).1 = (f_Model_about T a).1 ∧ eY (f_SM_about S a).2 (f_Model_about T a).2 := by
  unfold f_SM_about f_Model_about
  refine e_if (Ψ := fun p q : Int32 × gw_S => p.1 = q.1 ∧ eY p.2 q.2) (fun _ => ⟨eR_g h.1.1.1 eL91, h⟩) (fun _ => ?_)
  refine e_if (Ψ := fun p q : Int32 × gw_S => p.1 = q.1 ∧ eY p.2 q.2) (fun _ => ⟨eR_g h.1.1.1 eL92, h⟩) (fun _ => ?_)
  refine e_if (Ψ := fun p q : Int32 × gw_S => p.1 = q.1 ∧ eY p.2 q.2) (fun _ => ⟨eR_g h.1.1.1 eL01, h⟩) (fun _ => ?_)
  refine e_if (Ψ := fun p q : Int32 × gw_S => p.1 = q.1 ∧ eY p.2 q.2) (fun _ => ⟨h.1.2, h⟩) (fun _ => ?_)
  refine e_if (Ψ := fun p q : Int32 × gw_S => p.1 = q.1 ∧ eY p.2 q.2) (fun _ => ⟨eR_g h.1.1.1 eL67, h⟩) (fun _ => ?_)
  exact e_if (Ψ := fun p q : Int32 × gw_S => p.1 = q.1 ∧ eY p.2 q.2) (fun _ => ⟨eR_g h.1.1.1 eL66, h⟩) (fun _ => ⟨rfl, h⟩)
theorem y_channel {S T : gw_S} {a b : Int32} (h : eY S T) : (f_SM_channel S a b).1 = (f_Model_channel T a b).1 ∧ eY (f_SM_channel S a b).2 (f_Model_channel T a b).2 := by
  unfold f_SM_channel f_Model_channel
  rw [u_below S a (N := 16) rfl, u_in T a (L := 0) (N := 16) rfl rfl]
  by_cases c : 0 ≤ a.toInt ∧ a.toInt < 16
  · rw [if_pos c]
    have hk := y_clp (N := 16) c
    have g := fun (b c : Nat) q => eR_g h.1.1.1 (eLc hk (b := b) (c := c) q)
    rw [gw_bm (x := (1 : Int32)) (S := S), gw_bm (x := (1 : Int32)) (S := T), if_neg y_10, if_neg y_10]
    refine e_if (Ψ := fun p q : Int32 × gw_S => p.1 = q.1 ∧ eY p.2 q.2) (fun _ => ⟨g 2 5 (by omega), h⟩) (fun _ => ?_)
    refine e_if (Ψ := fun p q : Int32 × gw_S => p.1 = q.1 ∧ eY p.2 q.2) (fun _ => ?_) (fun _ => ?_)
    · rw [g 3 10 (by omega)]
      exact e_if (Ψ := fun p q : Int32 × gw_S => p.1 = q.1 ∧ eY p.2 q.2) (fun _ => ⟨rfl, h⟩) (fun _ => ⟨rfl, h⟩)
    refine e_if (Ψ := fun p q : Int32 × gw_S => p.1 = q.1 ∧ eY p.2 q.2) (fun _ => ⟨g 1 6 (by omega), h⟩) (fun _ => ?_)
    refine e_if (Ψ := fun p q : Int32 × gw_S => p.1 = q.1 ∧ eY p.2 q.2) (fun _ => ⟨h.1.1.2 _ hk, h⟩) (fun _ => ?_)
    exact e_if (Ψ := fun p q : Int32 × gw_S => p.1 = q.1 ∧ eY p.2 q.2) (fun _ => ⟨g 5 8 (by omega), h⟩) (fun _ => ⟨rfl, h⟩)
  · rw [if_neg c]; exact ⟨rfl, h⟩
theorem y_pixel {S T : gw_S} {a b d : Int32} (h : eY S T) : (f_SM_pixel S a b d).1 = (f_Model_pixel T a b d).1 ∧ eY (f_SM_pixel S a b d).2 (f_Model_pixel T a b d).2 := by
  unfold f_SM_pixel f_Model_pixel
  rw [u_below S a (N := 4) rfl, u_in T a (L := 0) (N := 4) rfl rfl]
  by_cases c : 0 ≤ a.toInt ∧ a.toInt < 4
  · rw [if_pos c, gw_bm (x := (1 : Int32)) (S := S), gw_bm (x := (1 : Int32)) (S := T), if_neg y_10, if_neg y_10]
    rw [u_below S b (N := 64) rfl, u_in T b (L := 0) (N := 64) rfl rfl]
    by_cases c2 : 0 ≤ b.toInt ∧ b.toInt < 64
    · rw [if_pos c2, gw_bm (x := (1 : Int32)) (S := S), gw_bm (x := (1 : Int32)) (S := T), if_neg y_10, if_neg y_10]
      rw [u_below S d (N := 40) rfl, u_in T d (L := 0) (N := 40) rfl rfl]
      by_cases c3 : 0 ≤ d.toInt ∧ d.toInt < 40
      · rw [if_pos c3]
        refine ⟨?_, h⟩
        show S 10 (((a * (2560 : Int32)) + (d * (64 : Int32))) + b).toNatClampNeg = T 4 ((((2560 : Int32) * a) + ((64 : Int32) * d)) + b).toNatClampNeg
        rw [eR_f10 h.1.1.1, Int32.mul_comm a, Int32.mul_comm d]
      · rw [if_neg c3]; exact ⟨rfl, h⟩
    · rw [if_neg c2]; exact ⟨rfl, h⟩
  · rw [if_neg c]; exact ⟨rfl, h⟩
theorem y_rng {x : Int32} {N : Int} (c : 0 ≤ x.toInt ∧ x.toInt < N) {m : Int32} (hm : m.toInt + 1 = N) : ¬ x < 0 ∧ x ≤ m := by
  rw [Int32.lt_iff_toInt_lt, Int32.toInt_zero, Int32.le_iff_toInt_le]; omega
theorem y_byteAt {S T : gw_S} {a b : Int32} (h : eY S T) : (f_SM_byteAt S a b).1 = (f_Model_byteAt T a b).1 ∧ eY (f_SM_byteAt S a b).2 (f_Model_byteAt T a b).2 := by
  unfold f_SM_byteAt f_Model_byteAt
  rw [u_in T a (L := 0) (N := 2) rfl rfl]
  by_cases c : 0 ≤ a.toInt ∧ a.toInt < 2
  · rw [if_pos c, gw_bm (x := (1 : Int32)) (S := T), if_neg y_10]
    rw [u_in T b (L := 0) (N := 1024) rfl rfl]
    by_cases c2 : 0 ≤ b.toInt ∧ b.toInt < 1024
    · rw [if_pos c2]
      have hb := y_rng c2 (m := (1023 : Int32)) rfl
      have hm : b &&& (1023 : Int32) = b := eA (vp_in_iff.mpr c2)
      by_cases c3 : a = 0
      · rw [if_pos c3, if_neg hb.1, if_pos hb.2]
        refine ⟨?_, ?_⟩
        · show S 3 (b &&& (1023 : Int32)).toNatClampNeg = (if a = 0 then (T 1 b.toNatClampNeg, T) else _ : Int32 × gw_S).1
          rw [if_pos c3, hm, eR_f3 h.1.1.1]
        · show eY S (if a = 0 then (T 1 b.toNatClampNeg, T) else (T 2 b.toNatClampNeg, T) : Int32 × gw_S).2
          rw [if_pos c3]; exact h
      · have c4 : a = 1 := by
          apply Int32.toInt_inj.mp
          have := gw_ne c3
          rw [Int32.toInt_zero] at this
          rw [show (1 : Int32).toInt = 1 from rfl]; omega
        rw [if_neg c3, if_pos c4, if_neg hb.1, if_pos hb.2]
        refine ⟨?_, ?_⟩
        · show S 8 (b &&& (1023 : Int32)).toNatClampNeg = (if a = 0 then _ else (T 2 b.toNatClampNeg, T) : Int32 × gw_S).1
          rw [if_neg c3, hm, eR_f8 h.1.1.1]
        · show eY S (if a = 0 then (T 1 b.toNatClampNeg, T) else (T 2 b.toNatClampNeg, T) : Int32 × gw_S).2
          rw [if_neg c3]; exact h
    · rw [if_neg c2]
      have hx : (if b < 0 then ((-1 : Int32), S) else ((-1 : Int32), S)) = ((-1 : Int32), S) := by split <;> rfl
      have hn : ∀ X : Int32 × gw_S, (if b < 0 then ((-1 : Int32), S) else (if b ≤ (1023 : Int32) then X else ((-1 : Int32), S))) = ((-1 : Int32), S) := by
        intro X
        by_cases d : b < 0
        · rw [if_pos d]
        · rw [if_neg d]
          rw [Int32.lt_iff_toInt_lt, Int32.toInt_zero] at d
          rw [if_neg (by rw [Int32.le_iff_toInt_le, show (1023 : Int32).toInt = 1023 from rfl]; omega)]
      rw [hn, hn]
      have hi : (if a = 0 then ((-1 : Int32), S) else (if a = 1 then ((-1 : Int32), S) else ((-1 : Int32), S))) = ((-1 : Int32), S) := by split; rfl; split <;> rfl
      rw [hi]; exact ⟨rfl, h⟩
  · rw [if_neg c]
    have n0 : ¬ a = 0 := fun q => c (by rw [q, Int32.toInt_zero]; omega)
    have n1 : ¬ a = 1 := fun q => c (by rw [q, show (1 : Int32).toInt = 1 from rfl]; omega)
    rw [if_neg n0, if_neg n1]; exact ⟨rfl, h⟩
