theorem gw_bs {α γ : Type} {x : α × gw_S} {S : gw_S} {K : α → gw_S → γ} (h : x.2 = S) : gw_b x K = K x.1 S := by subst h; rfl
noncomputable def d_pr (B : Nat → Int32) (p : Nat) : Int32 := (B (p % 1024) <<< ((8 : Int32) &&& 31)) ||| B ((p + 1) % 1024)
noncomputable def d_st (B : Nat → Int32) (p : Nat) : Nat := if d_pr B p &&& (32768 : Int32) = 0 then 4 else 5
noncomputable def d_ps (B : Nat → Int32) (p : Nat) : Nat → Nat
  | 0 => p
  | i + 1 => d_ps B p i + d_st B (d_ps B p i)
noncomputable def d_cl (B : Nat → Int32) (p : Nat) (c : Int32) : Int32 := if d_pr B p &&& (32768 : Int32) = 0 then c else B ((p + 4) % 1024) &&& (15 : Int32)
theorem d_st5 (B : Nat → Int32) (p : Nat) : d_st B p ≤ 5 := by
  unfold d_st
  split <;> omega
theorem d_ps5 (B : Nat → Int32) (p : Nat) : ∀ i, d_ps B p i ≤ p + 5 * i := by
  intro i
  induction i with
  | zero => exact Nat.le_refl _
  | succ i ih =>
    have := d_st5 B (d_ps B p i)
    show d_ps B p i + d_st B (d_ps B p i) ≤ _
    omega
theorem c_rp {S : gw_S} {p : Nat} (h : p < 4000000000) : f_Bytes_readPair 7 S (nI p) = (d_pr (S 8) p, S) := by
  show ((S 8 (nI p &&& (1023 : Int32)).toNatClampNeg <<< ((8 : Int32) &&& 31)) ||| S 8 ((nI p + (1 : Int32)) &&& (1023 : Int32)).toNatClampNeg, S) = _
  rw [nI_1, d_and (by omega), d_and (by omega), nI_clamp (by omega), nI_clamp (by omega)]
  rfl
theorem c_gstep {sh : gw_S → Int32 → Int32 → Int32 → Int32 → Int32 → Int32 → Unit × gw_S} {z c dep X Y : Int32} {N i p n : Nat} {S : gw_S} (hN : N ≤ 15) (hi : i < N) (hp : p < 2000) : fl_Painter_drawGroup_61 sh z c dep X Y (nI N) (n + 1) S (nI p) (nI i) = fl_Painter_drawGroup_61 sh z c dep X Y (nI N) n (sh S (d_pr (S 8) p &&& (1023 : Int32)) (X + d_sc (S 8 ((p + 2) % 1024)) z) (Y + d_sc (S 8 ((p + 3) % 1024)) z) z (d_cl (S 8) p c) (dep + (1 : Int32))).2 (nI (p + d_st (S 8) p)) (nI (i + 1)) := by
  have a2 : nI p + (2 : Int32) = nI (p + 2) := nI_add p 2
  have a3 : nI p + (3 : Int32) = nI (p + 3) := nI_add p 3
  have a4 : nI p + (4 : Int32) = nI (p + 4) := nI_add p 4
  have a5 : nI p + (5 : Int32) = nI (p + 5) := nI_add p 5
  have hge : ¬ nI N ≤ nI i := nI_ge (by omega) (by omega)
  refine (if_neg hge).trans ?_
  unfold d_cl d_st
  rw [c_rp (by omega), gw_bm, a2, c_rd (by omega), gw_bm, c_sc, gw_bm, gw_nm, a3, c_rd (by omega), gw_bm, c_sc, gw_bm, gw_nm, nI_1]
  by_cases q : d_pr (S 8) p &&& (32768 : Int32) = 0
  · rw [if_pos q, if_pos q, if_pos q, gw_bs rfl, gw_nm, a4]
    rfl
  · rw [if_neg q, if_neg q, if_neg q, a4, c_rd (by omega), gw_bm, gw_nm, gw_bs rfl, gw_nm, a5]
    rfl
theorem c_gend {sh : gw_S → Int32 → Int32 → Int32 → Int32 → Int32 → Int32 → Unit × gw_S} {z c dep X Y q : Int32} {N n : Nat} {S : gw_S} (hN : N ≤ 15) : fl_Painter_drawGroup_61 sh z c dep X Y (nI N) (n + 1) S q (nI N) = ((), S) := if_pos (nI_le (Nat.le_refl N) (by omega))
def dC (B : Nat → Int32) (z : Int32) (T : gw_S) : Nat → (gw_S → gw_S) → Prop
  | 0, F => ∀ S : gw_S, S 8 = B → F S = S
  | s + 1, F => ∃ G : gw_S → gw_S, dC B z T s G ∧ ∀ S : gw_S, S 8 = B → F S = G (f_Painter_drawShapeK (5 - (T 16 s).toInt.toNat) S (T 12 s) (T 13 s) (T 14 s) z (T 15 s) (T 16 s)).2
theorem dC_c {B : Nat → Int32} {z : Int32} {T T' : gw_S} : ∀ (s : Nat) (F : gw_S → gw_S), (∀ a q, 12 ≤ a → a ≤ 16 → q < s → T' a q = T a q) → dC B z T s F → dC B z T' s F := by
  intro s
  induction s with
  | zero => intro F _ h; exact h
  | succ s ih =>
    intro F e h
    obtain ⟨G, h1, h2⟩ := h
    refine ⟨G, ih G (fun a q z1 z2 z3 => e a q z1 z2 (by omega)) h1, fun S hS => ?_⟩
    rw [e 16 s (by omega) (by omega) (by omega), e 12 s (by omega) (by omega) (by omega), e 13 s (by omega) (by omega) (by omega), e 14 s (by omega) (by omega) (by omega), e 15 s (by omega) (by omega) (by omega)]
    exact h2 S hS
theorem d_full {k : Nat} {S : gw_S} {a x y z c d : Int32} (h : ¬ S 6 5 < (200 : Int32)) : (f_Painter_drawShapeK k S a x y z c d).2 = S := by
  cases k with
  | zero =>
    show (f_Painter_drawShape _ S a x y z c d).2 = S
    unfold f_Painter_drawShape
    rw [if_neg h]
  | succ k =>
    show (f_Painter_drawShape _ S a x y z c d).2 = S
    unfold f_Painter_drawShape
    rw [if_neg h]
theorem dC_full {B : Nat → Int32} {z : Int32} {T : gw_S} : ∀ (s : Nat) (F : gw_S → gw_S) (S : gw_S), dC B z T s F → S 8 = B → ¬ S 6 5 < (200 : Int32) → F S = S := by
  intro s
  induction s with
  | zero => intro F S h hB _; exact h S hB
  | succ s ih =>
    intro F S h hB hS
    obtain ⟨G, h1, h2⟩ := h
    rw [h2 S hB, d_full hS]
    exact ih G S h1 hB hS
theorem dC_g {B : Nat → Int32} {z c dep X Y : Int32} {T : gw_S} {s N p0 k : Nat} {G : gw_S → gw_S} (hN : N ≤ 15) (hp : p0 < 1100) (hG : dC B z T s G) (hk : k = 5 - (dep + (1 : Int32)).toInt.toNat) (hE : ∀ i, i < N → T 12 (s + (N - 1 - i)) = d_pr B (d_ps B p0 i) &&& (1023 : Int32) ∧ T 13 (s + (N - 1 - i)) = X + d_sc (B ((d_ps B p0 i + 2) % 1024)) z ∧ T 14 (s + (N - 1 - i)) = Y + d_sc (B ((d_ps B p0 i + 3) % 1024)) z ∧ T 15 (s + (N - 1 - i)) = d_cl B (d_ps B p0 i) c ∧ T 16 (s + (N - 1 - i)) = dep + (1 : Int32)) : ∀ (m n i : Nat), i + m = N → m < n → dC B z T (s + m) (fun S => G (fl_Painter_drawGroup_61 (f_Painter_drawShapeK k) z c dep X Y (nI N) n S (nI (d_ps B p0 i)) (nI i)).2) := by
  intro m
  induction m with
  | zero =>
    intro n i hi hn
    obtain ⟨n, rfl⟩ : ∃ n', n = n' + 1 := ⟨n - 1, by omega⟩
    have hi2 : i = N := by omega
    have e : (fun S => G (fl_Painter_drawGroup_61 (f_Painter_drawShapeK k) z c dep X Y (nI N) (n + 1) S (nI (d_ps B p0 i)) (nI i)).2) = G := funext fun S => by rw [hi2, c_gend hN]
    rw [e]
    exact hG
  | succ m ih =>
    intro n i hi hn
    obtain ⟨n, rfl⟩ : ∃ n', n = n' + 1 := ⟨n - 1, by omega⟩
    refine ⟨_, ih n (i + 1) (by omega) (by omega), fun S hS => ?_⟩
    have e := hE i (by omega)
    rw [show N - 1 - i = m by omega] at e
    have h5 := d_ps5 B p0 i
    have h6 := c_gstep (sh := f_Painter_drawShapeK k) (z := z) (c := c) (dep := dep) (X := X) (Y := Y) (n := n) (S := S) hN (by omega : i < N) (by omega : d_ps B p0 i < 2000)
    show G (fl_Painter_drawGroup_61 (f_Painter_drawShapeK k) z c dep X Y (nI N) (n + 1) S (nI (d_ps B p0 i)) (nI i)).2 = G (fl_Painter_drawGroup_61 (f_Painter_drawShapeK k) z c dep X Y (nI N) n (f_Painter_drawShapeK (5 - (T 16 (s + m)).toInt.toNat) S (T 12 (s + m)) (T 13 (s + m)) (T 14 (s + m)) z (T 15 (s + m)) (T 16 (s + m))).2 (nI (d_ps B p0 i + d_st B (d_ps B p0 i))) (nI (i + 1))).2
    rw [h6, e.1, e.2.1, e.2.2.1, e.2.2.2.1, e.2.2.2.2, hS, ← hk]
