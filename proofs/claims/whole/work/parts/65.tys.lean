theorem gl_tys {D : va_G} {s : State} {args : Array Value} (hts : ∀ w ∈ gTs, w.before args s = true) (hK : va_K D gCl [] s) (hO : va_AO "StageMachine$Channel" s) : ∃ cI cB cC cZ : ClassId, va_K D gCl (gTys cI cB cC cZ) s := by
  obtain ⟨cI, kI, pI, a1, a2, a3⟩ := Cond.arrayClass_spec (hts _ tw_35)
  obtain ⟨cB, kB, pB, b1, b2, b3⟩ := Cond.arrayClass_spec (hts _ tw_67)
  obtain ⟨cZ, kZ, pZ, z1, z2, z3⟩ := Cond.arrayClass_spec (hts _ tw_507)
  obtain ⟨pC, cC, kC, c1, c2, c3, c4, c5⟩ := Cond.arrayOver_spec (va_AO.use (A := #[]) hO)
  refine ⟨cI, cB, cC, cZ, hK.1, fun k q hk => ?_⟩
  have hl : k < 4 := (List.getElem?_eq_some_iff.mp hk).1
  rcases (show k = 0 ∨ k = 1 ∨ k = 2 ∨ k = 3 by omega) with rfl | rfl | rfl | rfl
  · cases hk; exact ⟨fun N z => ⟨fun k h => (by cases h), kI, a2, pI, a3⟩, a1⟩
  · cases hk; exact ⟨fun N z => ⟨fun k h => (by cases h), kB, b2, pB, b3⟩, b1⟩
  · cases hk
    refine ⟨fun N z => ⟨fun k h => (by cases h), kC, c3, pC, c4⟩, ?_⟩
    first | exact ⟨kC, pC, c3, c4, c1, c5⟩ | exact ⟨kC, pC, c3, c4, c1, c2⟩ | exact ⟨kC, pC, c3, c4, c5, c2⟩
  · cases hk; exact ⟨fun N z => ⟨fun k h => (by cases h), kZ, z2, pZ, z3⟩, z1⟩
