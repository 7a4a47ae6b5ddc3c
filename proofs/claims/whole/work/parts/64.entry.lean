theorem gl_cls {s : State} {args : Array Value} (hts : ∀ w ∈ gTs, w.before args s = true) : ∃ D : va_G, va_K D gCl [] s := by
  obtain ⟨c0, i0, k0⟩ := u_known hts cin_Bytes (hts _ tw_26)
  obtain ⟨c1, i1, k1⟩ := u_known hts cin_Channel (hts _ tw_99)
  obtain ⟨c2, i2, k2⟩ := u_known hts cin_Pages (hts _ tw_47)
  obtain ⟨c3, i3, k3⟩ := u_known hts cin_Painter (hts _ tw_39)
  obtain ⟨c4, i4, k4⟩ := u_known hts cin_Player (hts _ tw_20)
  obtain ⟨c5, i5, k5⟩ := u_known hts cin_SM (hts _ tw_12)
  obtain ⟨c6, i6, k6⟩ := u_known hts rin_Model (hts _ tw_402)
  refine ⟨(fun c => match c with | 0 => c0 | 1 => c1 | 2 => c2 | 3 => c3 | 4 => c4 | 5 => c5 | _ => c6, fun c => match c with | 0 => i0 | 1 => i1 | 2 => i2 | 3 => i3 | 4 => i4 | 5 => i5 | _ => i6), fun c q hq => ?_, fun k q hk => by simp at hk⟩
  have hc : c < 7 := (List.getElem?_eq_some_iff.mp hq).1
  rcases (show c = 0 ∨ c = 1 ∨ c = 2 ∨ c = 3 ∨ c = 4 ∨ c = 5 ∨ c = 6 by omega) with rfl | rfl | rfl | rfl | rfl | rfl | rfl
  · cases hq; exact k0
  · cases hq; exact k1
  · cases hq; exact k2
  · cases hq; exact k3
  · cases hq; exact k4
  · cases hq; exact k5
  · cases hq; exact k6
