theorem eG_g3 {j : Nat} {S T S' T' : gw_S} (h : eG j S T) (f : ∀ a q, ¬ (a = 6 ∧ q = 5) → S' a q = S a q) (g : ∀ a q, ¬ (a = 0 ∧ q = 21) → ¬ (a = 0 ∧ q = 22) → ¬ (a = 0 ∧ q = 23) → ¬ (12 ≤ a ∧ a ≤ 16) → T' a q = T a q) : eG j S' T' := by
  obtain ⟨h1, h2, h3, h4, h5, h6⟩ := h
  refine ⟨fun a b c d hl => ?_, ?_, ?_, ?_, ?_, fun k hk => ?_⟩
  · have hac : ¬ (a = 6 ∧ b = 5) ∧ ¬ (c = 0 ∧ d = 21) ∧ ¬ (c = 0 ∧ d = 22) ∧ ¬ (c = 0 ∧ d = 23) ∧ ¬ (12 ≤ c ∧ c ≤ 16) := by
      have hl' := hl
      unfold eL at hl'
      rcases hl' with q | q | q | q | q | q | q | q | q | q | q <;> omega
    rw [f a b hac.1, g c d hac.2.1 hac.2.2.1 hac.2.2.2.1 hac.2.2.2.2]
    exact h1 a b c d hl
  · rw [g 0 17 (by omega) (by omega) (by omega) (by omega)]; exact h2
  · rw [g 0 18 (by omega) (by omega) (by omega) (by omega), f 1 4 (by omega)]; exact h3
  · rw [g 0 20 (by omega) (by omega) (by omega) (by omega), f 1 5 (by omega)]; exact h4
  · rw [g 0 19 (by omega) (by omega) (by omega) (by omega)]; exact h5
  · rw [g 7 k (by omega) (by omega) (by omega) (by omega), f (k + 14) 4 (by omega)]; exact h6 k hk
theorem d_top {j : Nat} {U V : gw_S} {a x y z : Int32} (h : eQ j U V) (ha : vp_in a 1024) (hx : cSh x) (hy : cSh y) (hz : cSh z) : eG j (f_Painter_drawShapeK 5 (gw_u U 6 5 (0 : Int32)) a x y z (-1 : Int32) (0 : Int32)).2 (fl_Model_draw_77 (gw_fu (200 - ((f_Model_lay (gw_u (gw_u (gw_u V 0 22 z) 0 21 (0 : Int32)) 0 23 (0 : Int32)) a x y (-1 : Int32) (0 : Int32)).2 0 21).toInt)) (f_Model_lay (gw_u (gw_u (gw_u V 0 22 z) 0 21 (0 : Int32)) 0 23 (0 : Int32)) a x y (-1 : Int32) (0 : Int32)).2).2 := by
  obtain ⟨hG, _, _, hO⟩ := h
  obtain ⟨T1, w, p, g, y1, y2, y3, y4, y5⟩ := r_lyE (T := gw_u (gw_u (gw_u V 0 22 z) 0 21 (0 : Int32)) 0 23 (0 : Int32)) (s := 0) (a := a) (b := x) (c := y) (d := (-1 : Int32)) (e := (0 : Int32)) (by rw [gw_us]; rfl) (by omega)
  rw [w]
  dsimp only
  have e21 : T1 0 21 = nI 0 := by rw [g 0 21 (by omega) (by omega), gw_un (by omega), gw_us]; rfl
  have e22 : T1 0 22 = z := by rw [g 0 22 (by omega) (by omega), gw_un (by omega), gw_un (by omega), gw_us]
  have e2 : T1 2 = V 2 := funext fun q => by rw [g 2 q (by omega) (by omega), gw_un (by omega), gw_un (by omega), gw_un (by omega)]
  have hb : ∀ k, vp_in (V 2 k) 256 := fun k => by rw [← eR_f8 hG.1]; exact (hO 8 k).1 (Or.inr rfl)
  have hG1 : eG j (gw_u U 6 5 (0 : Int32)) T1 := eG_g3 hG (fun a q z => gw_un z) (fun a q z1 z2 z3 z4 => by rw [g a q z3 (by omega), gw_un z3, gw_un z1, gw_un z2])
  have fu := gw_fu_lt (200 - (T1 0 21).toInt)
  have fz : (T1 0 21).toInt = 0 := by rw [e21]; rfl
  refine d_loop (z := z) (B := V 2) hz hb 200 (gw_fu (200 - (T1 0 21).toInt)) (gw_u U 6 5 (0 : Int32)) T1 1 0 (fun S => (f_Painter_drawShapeK 5 S a x y z (-1 : Int32) (0 : Int32)).2) (by omega) (by omega) (by omega) hG1 (cOK_o rfl hO (by omega)) e2 e22 p (by rw [gw_us]; rfl) e21 (fun q hq => ?_) ⟨fun S => S, fun S _ => rfl, fun S _ => ?_⟩
  · rw [show q = 0 by omega, y1, y2, y3, y5]
    exact ⟨ha, ⟨by decide, by decide⟩, cXb_0 hx, cXb_0 hy⟩
  · show (f_Painter_drawShapeK 5 S a x y z (-1 : Int32) (0 : Int32)).2 = (f_Painter_drawShapeK (5 - (T1 16 0).toInt.toNat) S (T1 12 0) (T1 13 0) (T1 14 0) z (T1 15 0) (T1 16 0)).2
    rw [y1, y2, y3, y4, y5, show 5 - (0 : Int32).toInt.toNat = 5 from rfl]
theorem e_draw : ∀ (j : Nat) (S T : gw_S), eQ j S T → eG j (f_Player_draw S).2 (f_Model_draw T).2 := by
  intro j S T h
  unfold f_Player_draw f_Model_draw
  have e4 : ∀ {U V : gw_S} {k : Nat}, eQ j U V → U 4 k = V 3 k := fun q => congrFun (eR_f4 q.1.1) _
  have e5 : ∀ {U V : gw_S} {k : Nat}, eQ j U V → cSh (V 3 k) := fun {U V k} q => by rw [← e4 q]; exact (q.2.2.2 4 k).2.1 rfl
  refine e_b (Ψ := fun (p q : Unit × gw_S) => eG j p.2 q.2) (P := fun r U V => vp_in r 1024 ∧ eQ j U V) (q_place h) (fun r U V h1 => ?_)
  refine e_b (Ψ := fun (p q : Unit × gw_S) => eG j p.2 q.2) (P := fun r U V => vp_in r 32 ∧ eQ j U V) (q_name h1.2) (fun r2 U2 V2 h2 => ?_)
  refine e_n (Ψ := fun (p q : Unit × gw_S) => eG j p.2 q.2) (e4 h2.2) (fun x hx => ?_)
  refine e_b (Ψ := fun (p q : Unit × gw_S) => eG j p.2 q.2) (P := fun r U V => vp_in r 32 ∧ eQ j U V) (q_name h2.2) (fun r3 U3 V3 h3 => ?_)
  refine e_n (Ψ := fun (p q : Unit × gw_S) => eG j p.2 q.2) (e4 h3.2) (fun y hy => ?_)
  refine e_b (Ψ := fun (p q : Unit × gw_S) => eG j p.2 q.2) (P := fun r U V => vp_in r 256 ∧ eQ j U V) (q_next h3.2) (fun r4 U4 V4 h4 => ?_)
  have hx' : cSh x := by rw [hx]; exact e5 h2.2
  have hy' : cSh y := by rw [hy]; exact e5 h3.2
  refine e_if (Ψ := fun (p q : Unit × gw_S) => eG j p.2 q.2) (fun _ => ?_) (fun _ => ?_)
  · have D := d_top (x := x) (y := y) (z := (64 : Int32)) h4.2 h1.1 hx' hy' (by unfold cSh; rfl)
    rw [gw_nm, gw_bs rfl, gw_nm, gw_nm, gw_nm, gw_bs rfl]
    dsimp only
    exact D
  · have D := d_top (x := x) (y := y) (z := V4 3 (r4 &&& (31 : Int32)).toNatClampNeg) h4.2 h1.1 hx' hy' (e5 h4.2)
    rw [gw_nm, e4 h4.2, gw_nm, gw_bs rfl, gw_nm, gw_nm, gw_nm, gw_bs rfl]
    dsimp only
    exact D
theorem y_frame {S T : gw_S} {a : Int32} (h : eY S T) : (f_SM_frame S a).1 = (f_Model_frame T a).1 ∧ eY (f_SM_frame S a).2 (f_Model_frame T a).2 := y_frame_open e_draw h
