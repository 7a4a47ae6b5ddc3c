theorem gl_kept {D : va_G} {NC NC2 : Nat} {ad ad2 : Nat → Nat} {E2 : Nat → (Nat → Int32) → va_E} {U : gw_S} {H H1 : Heap} (hd : ∀ i, i < NC2 → ∀ j, j < NC → ad2 i ≠ ad j) (hk : ∀ q : Nat, q < H.size → ¬ gw_A NC ad H.size q → H1[q]? = H[q]?) (hP : gw_P D gCl NC2 ad2 E2 U H) : gw_P D gCl NC2 ad2 E2 U H1 := by
  refine va_P.kept hP (fun k x hx => ?_)
  have hlt := (hP k x hx).lt
  obtain ⟨hi, rfl⟩ := gw_inv hx
  refine hk _ hlt (fun h => ?_)
  rcases h with ⟨j, hj, e⟩ | h
  · exact hd k hi j hj e
  · exact absurd hlt (Nat.not_lt.mpr h)
theorem gl_ran {p : Program} {l : Launch} {e : Env} {R : Room} {s : State} {m : MethodId} {args : Array Value} {below : List Frame} {meth : Method} {c : Code} {α : Type} {rw' : α → Option Value} {a : α × gw_S} {D : va_G} {NC : Nat} {ad : Nat → Nat} {E : Nat → (Nat → Int32) → va_E} {A : Nat → Prop} {H : Heap} {locs : List Loc} {k n pc : Nat} {ls : Array Slot} {st0 rest : List Value} {Q : State → Prop} {av : Array Value}
    (hr : va_Run p l e R s m args below meth c H locs k n 0 0 (F0 m pc ls st0) rest (gw_Q rw' (gw_P D gCl NC ad E) (gw_A NC ad H.size) a av) (gw_A NC ad H.size)) (hS : va_S A s.heap H locs) (hA : ∀ i, i < NC → A (ad i)) (hA2 : ∀ q : Nat, s.heap.size ≤ q → A q)
    (kk : ∀ (H1 : Heap) (locs1 : List Loc), gw_P D gCl NC ad E a.2 H1 → (∀ q : Nat, q < H.size → ¬ gw_A NC ad H.size q → H1[q]? = H[q]?) → va_S A s.heap H1 locs1 → W p l e R s m args below meth c H1 locs1 k n Q (F0 m (pc + 3) ls ((rw' a.1).toList ++ rest))) : W p l e R s m args below meth c H locs k n Q (F0 m pc ls st0) := by
  intro T hT hX
  obtain ⟨v, st, t, T', L, h0, hX', hL, hT', hvm, ⟨⟨hoc, hW⟩, hF⟩, hgo⟩ := hr T hT hX
  have hsub : ∀ q, gw_A NC ad H.size q → A q := by
    intro q hq
    rcases hq with ⟨i, hi, rfl⟩ | h
    · exact hA i hi
    · exact hA2 q (Nat.le_trans hS.1 h)
  have hv : v = rw' a.1 := by injection hoc
  subst hv
  have hk : ∀ q : Nat, q < H.size → ¬ gw_A NC ad H.size q → t.heap[q]? = H[q]? := fun q hq hn => by
    have h1 := hF.2 q (by rw [h0]; exact hq) hn
    rw [h1, h0]
  have hS' : va_S A s.heap t.heap (locs ++ L) := by
    refine ⟨?_, ?_, ?_⟩
    · have h1 := hF.1
      rw [h0] at h1
      exact Nat.le_trans hS.1 h1
    · intro q hq hn
      have h1 := hF.2 q (by rw [h0]; exact Nat.lt_of_lt_of_le hq hS.1) (fun h => hn (hsub q h))
      rw [h1, h0]
      exact hS.2.1 q hq hn
    · intro x hx
      rcases List.mem_append.mp hx with h | h
      · exact hS.2.2 x h
      · exact hsub _ (hL x h)
  obtain ⟨u, hu, hq⟩ := kk t.heap (locs ++ L) hW hk hS' T' hT' hX'
  exact ⟨u, hgo u hu, hq⟩
