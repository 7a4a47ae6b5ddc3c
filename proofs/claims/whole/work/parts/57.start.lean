theorem c_S00 {i k : Nat} (h : i ≠ 1) (h2 : ¬ (14 ≤ i ∧ i < 30)) : c_S0 i k = 0 := by
  unfold c_S0
  rw [if_neg (by omega), if_neg h2]
theorem c_S01 {i k : Nat} (h : 14 ≤ i ∧ i < 30) : c_S0 i k = (if k = 2 then (-1) else (if k = 5 ∨ k = 6 then (-2) else 0)) := by
  unfold c_S0
  rw [if_neg (by omega), if_pos h]
theorem r_S00 {i k : Nat} (h : i ≠ 5) (h8 : i ≠ 8) (h9 : i ≠ 9) : r_S0 i k = 0 := by
  unfold r_S0
  rw [if_neg h, if_neg (by omega)]
theorem eR_00 : eR c_S0 r_S0 := by
  intro a b c d h
  unfold eL at h
  rcases h with h | h | h | h | h | h | h | h | h | h | h
  · obtain ⟨rfl, rfl, rfl⟩ := h; rw [c_S00 (by omega) (by omega), r_S00 (by omega) (by omega) (by omega)]
  · obtain ⟨rfl, rfl, rfl⟩ := h; rw [c_S00 (by omega) (by omega), r_S00 (by omega) (by omega) (by omega)]
  · obtain ⟨rfl, rfl, rfl⟩ := h; rw [c_S00 (by omega) (by omega), r_S00 (by omega) (by omega) (by omega)]
  · obtain ⟨rfl, rfl, rfl⟩ := h; rw [c_S00 (by omega) (by omega), r_S00 (by omega) (by omega) (by omega)]
  · obtain ⟨rfl, rfl, rfl, rfl⟩ := h; rfl
  · obtain ⟨rfl, rfl, rfl, rfl⟩ := h; rfl
  · obtain ⟨rfl, rfl, rfl, rfl⟩ := h; rfl
  · obtain ⟨rfl, rfl, rfl, rfl⟩ := h; rfl
  · obtain ⟨rfl, rfl, rfl, rfl⟩ := h; rfl
  · obtain ⟨h1, h2, h3, h⟩ := h
    rw [c_S01 ⟨h1, h2⟩]
    rcases h with h | h | h | h | h <;> obtain ⟨rfl, rfl⟩ := h <;> rfl
  · obtain ⟨h1, h2, h3, rfl, h4⟩ := h
    rw [c_S00 (by omega) (by omega), r_S00 (by omega) (by omega) (by omega)]
theorem cOK_00 : cOK c_S0 := by
  intro i k
  refine ⟨fun h => ?_, fun h => ?_, fun h _ => ?_, fun h => ?_, fun h => ?_⟩
  · rw [c_S00 (by omega) (by omega)]; exact vp_in_iff.mpr (by decide)
  · rw [c_S00 (by omega) (by omega)]; unfold cSh; rfl
  · rw [c_S00 (by omega) (by omega)]; exact vp_in_iff.mpr (by decide)
  · rw [c_S00 (by omega) (by omega)]; rfl
  · rw [c_S00 (by omega) (by omega)]; unfold cYb; decide
theorem rOK_00 : rOK r_S0 := by
  intro i k
  refine ⟨fun h _ => ?_, fun h _ => ?_, fun h _ => ?_, fun h => ?_, fun h => ?_, fun h => ?_, fun h => ?_⟩
  · rw [r_S00 (by omega) (by omega) (by omega)]; exact vp_in_iff.mpr (by decide)
  · rw [r_S00 (by omega) (by omega) (by omega)]; exact vp_in_iff.mpr (by decide)
  · rw [r_S00 (by omega) (by omega) (by omega)]; exact vp_in_iff.mpr (by decide)
  · rw [r_S00 (by omega) (by omega) (by omega)]; exact vp_in_iff.mpr (by decide)
  · rw [r_S00 (by omega) (by omega) (by omega)]; exact vp_in_iff.mpr (by decide)
  · subst h; unfold rAd; show -1 ≤ (-1 : Int32).toInt ∧ (-1 : Int32).toInt ≤ 1023; decide
  · subst h; unfold rAs; show -2 ≤ (-2 : Int32).toInt ∧ (-2 : Int32).toInt ≤ 1023; decide
theorem eY_00 : eY c_S0 r_S0 := by
  refine ⟨⟨⟨eR_00, fun k hk => ?_⟩, rfl⟩, rOK_00, cOK_00⟩
  rw [c_S01 (by omega), r_S00 (by omega) (by omega) (by omega)]
  rfl
