abbrev gw_S : Type := Nat → Nat → Int32
def gw_u (S : gw_S) (i k : Nat) (x : Int32) : gw_S := va_up S i (upd (S i) k x)
def gw_a (S : gw_S) (i : Nat) (f : Nat → Int32) : gw_S := va_up S i f
def gw_n {α β : Type} (x : α) (K : α → β) : β := K x
def gw_b {α β γ : Type} (p : α × β) (K : α → β → γ) : γ := K p.1 p.2
def gw_L1 {A γ : Type} (step : (gw_S → A → γ) → gw_S → A → γ) (d : gw_S → A → γ) : Nat → gw_S → A → γ
  | 0 => d
  | n + 1 => step (gw_L1 step d n)
def gw_L2 {A B γ : Type} (step : (gw_S → A → B → γ) → gw_S → A → B → γ) (d : gw_S → A → B → γ) : Nat → gw_S → A → B → γ
  | 0 => d
  | n + 1 => step (gw_L2 step d n)
def gw_L3 {A B C γ : Type} (step : (gw_S → A → B → C → γ) → gw_S → A → B → C → γ) (d : gw_S → A → B → C → γ) : Nat → gw_S → A → B → C → γ
  | 0 => d
  | n + 1 => step (gw_L3 step d n)
def gw_L0 {γ : Type} (step : (gw_S → γ) → gw_S → γ) (d : gw_S → γ) : Nat → gw_S → γ
  | 0 => d
  | n + 1 => step (gw_L0 step d n)
def gw_rI (x : Int32) : Option Value := some (.int x)
def gw_rJ (x : Int64) : Option Value := some (.long x)
def gw_rV (_ : Unit) : Option Value := none
def gw_rA (ad : Nat → Nat) (x : Option Nat) : Option Value := some (match x with | none => .null | some i => .ref (ad i))
def gw_rm (d : Nat) : Room := { frames := d, cells := 0, slots := 0, locals := 40 * d }
def gw_W (NC : Nat) (ad : Nat → Nat) (E : Nat → (Nat → Int32) → va_E) (S : gw_S) : va_W := (List.range NC).map (fun i => (ad i, E i (S i)))
def gw_P (D : va_G) (cl : List vw_C) (NC : Nat) (ad : Nat → Nat) (E : Nat → (Nat → Int32) → va_E) (S : gw_S) (H : Heap) : Prop := va_P D cl (gw_W NC ad E S) H
def gw_A (NC : Nat) (ad : Nat → Nat) (sz : Nat) : Nat → Prop := fun q => (∃ i, i < NC ∧ q = ad i) ∨ sz ≤ q
def gw_J (NC : Nat) (ad : Nat → Nat) : Prop := ∀ i j, i < NC → j < NC → ad i = ad j → i = j
theorem gw_get0 {NC : Nat} {ad : Nat → Nat} {E : Nat → (Nat → Int32) → va_E} {S : gw_S} {i : Nat} (h : i < NC) : (gw_W NC ad E S)[i]? = some (ad i, E i (S i)) := by
  simp [gw_W, List.getElem?_map, List.getElem?_range h]
theorem gw_inv {NC : Nat} {ad : Nat → Nat} {E : Nat → (Nat → Int32) → va_E} {S : gw_S} {i : Nat} {q : Nat × va_E} (h : (gw_W NC ad E S)[i]? = some q) : i < NC ∧ q = (ad i, E i (S i)) := by
  have hi : i < NC := by
    have := (List.getElem?_eq_some_iff.mp h).1
    simpa [gw_W] using this
  rw [gw_get0 hi] at h
  exact ⟨hi, (Option.some.inj h).symm⟩
theorem gw_set {NC : Nat} {ad : Nat → Nat} {E : Nat → (Nat → Int32) → va_E} {S : gw_S} {i : Nat} (h : i < NC) (x : Nat → Int32) : (gw_W NC ad E S).set i (ad i, E i x) = gw_W NC ad E (gw_a S i x) := by
  apply List.ext_getElem?
  intro j
  by_cases hj : j < NC
  · by_cases e : j = i
    · subst e
      rw [List.getElem?_set_self (by simpa [gw_W] using h), gw_get0 hj]
      simp [gw_a, va_up]
    · rw [List.getElem?_set_ne (fun q => e q.symm), gw_get0 hj, gw_get0 hj]
      simp [gw_a, va_up, e]
  · have h1 : ((gw_W NC ad E S).set i (ad i, E i x)).length ≤ j := by simp [gw_W]; omega
    have h2 : (gw_W NC ad E (gw_a S i x)).length ≤ j := by simp [gw_W]; omega
    rw [List.getElem?_eq_none h1, List.getElem?_eq_none h2]
theorem gw_D {NC : Nat} {ad : Nat → Nat} {E : Nat → (Nat → Int32) → va_E} {S : gw_S} {A : Nat → Prop} (hJ : gw_J NC ad) (hA : ∀ i, i < NC → A (ad i)) : va_D A (gw_W NC ad E S) := by
  refine ⟨?_, ?_⟩
  · intro i j p q hp hq e
    obtain ⟨hi, rfl⟩ := gw_inv hp
    obtain ⟨hj, rfl⟩ := gw_inv hq
    exact hJ i j hi hj e
  · intro k q hq
    obtain ⟨hi, rfl⟩ := gw_inv hq
    exact hA k hi
abbrev gx_M : Type := Program × Launch × Env × Room × State × MethodId × Array Value × List Frame × Method × Code
def gw_Q {α : Type} (rv : α → Option Value) (Wd : gw_S → Heap → Prop) (A : Nat → Prop) (ans : α × gw_S) : Array Value → State → Outcome → State → Prop := fun _ st oc t => (oc = .returned (rv ans.1) ∧ Wd ans.2 t.heap) ∧ va_F A st t
def gw_Pc (Ts : List Cond) (D : va_G) (cl : List vw_C) (tys : List (ClassId × FieldType)) (Wd : gw_S → Heap → Prop) (sz : Nat) (S : gw_S) (av : List Value) : Array Value → State → Prop := fun v U => v = av.toArray ∧ U.heap.size = sz ∧ Wd S U.heap ∧ va_K D cl tys U ∧ ∀ w ∈ Ts, gw_isN w = true → va_Nw w U
def gw_M {α : Type} (l : Launch) (y : MethodName) (cc : ByteArray) (maxL : Nat) (ret : Option FieldType) (Ts : List Cond) (rm : Room) (D : va_G) (cl : List vw_C) (tys : List (ClassId × FieldType)) (NC : Nat) (ad : Nat → Nat) (E : Nat → (Nat → Int32) → va_E) (rv : α → Option Value) (av : List Value) (S : gw_S) (ans : α × gw_S) : Prop :=
  ∀ sz : Nat, Met l y (Cond.code y cc maxL ret :: Ts.filter goodWord) rm (gw_Pc Ts D cl tys (gw_P D cl NC ad E) sz S av) (gw_Q rv (gw_P D cl NC ad E) (gw_A NC ad sz) ans) 0 0 (gw_A NC ad sz)
abbrev gw_Wx (X : gx_M) (H : Heap) (locs : List Loc) (Q : State → Prop) (g : JFrame) : Prop := W X.1 X.2.1 X.2.2.1 X.2.2.2.1 X.2.2.2.2.1 X.2.2.2.2.2.1 X.2.2.2.2.2.2.1 X.2.2.2.2.2.2.2.1 X.2.2.2.2.2.2.2.2.1 X.2.2.2.2.2.2.2.2.2 H locs 0 0 Q g
def gw_V {α : Type} (X : gx_M) (Wd : gw_S → Heap → Prop) (A : Nat → Prop) (nL : Nat) (rv : α → Option Value) (S : gw_S) (pc : Nat) (lv : List (Nat × Value)) (st : List Value) (ans : α × gw_S) : Prop :=
  ∀ (H : Heap) (locs : List Loc) (ls : Array Slot), Wd S H → va_S A X.2.2.2.2.1.heap H locs → lv_has ls nL lv →
    gw_Wx X H locs (MQ X.2.2.2.2.2.2.2.1 (gw_Q rv Wd A ans) X.2.2.2.2.2.2.1 X.2.2.2.2.1 0 0 A) (F0 X.2.2.2.2.2.1 pc ls st)
def gw_F (X : gx_M) (l : Launch) (cc : ByteArray) (nL : Nat) (ret : Option FieldType) (own : String) (Ts : List Cond) (rm : Room) (D : va_G) (cl : List vw_C) (tys : List (ClassId × FieldType)) (NC : Nat) (ad : Nat → Nat) (A : Nat → Prop) : Prop :=
  X.1.tables.exec = Jvm.exec ∧ X.2.2.2.2.2.2.2.2.2.code = cc ∧ X.2.2.2.2.2.2.2.2.2.maxLocals = nL ∧ X.2.2.2.2.1.vm.findClass own = some X.2.2.2.2.2.1.cls ∧ (∀ w ∈ Ts, w.before X.2.2.2.2.2.2.1 X.2.2.2.2.1 = true) ∧ X.2.2.2.1 = rm ∧ X.2.2.2.2.2.2.2.2.1.sig.returnType = ret ∧ X.2.2.2.2.2.2.2.2.1.locks = false ∧ X.2.1 = l ∧ va_K D cl tys X.2.2.2.2.1 ∧ gw_J NC ad ∧ A = gw_A NC ad X.2.2.2.2.1.heap.size
theorem gw_FJ {X : gx_M} {l : Launch} {cc : ByteArray} {nL : Nat} {ret : Option FieldType} {own : String} {Ts : List Cond} {rm : Room} {D : va_G} {cl : List vw_C} {tys : List (ClassId × FieldType)} {NC : Nat} {ad : Nat → Nat} {A : Nat → Prop} (F : gw_F X l cc nL ret own Ts rm D cl tys NC ad A) : gw_J NC ad := F.2.2.2.2.2.2.2.2.2.2.1
theorem gw_Me {α : Type} {l : Launch} {y : MethodName} {cc : ByteArray} {maxL : Nat} {ret : Option FieldType} {Ts : List Cond} {rm : Room} {D : va_G} {cl : List vw_C} {tys : List (ClassId × FieldType)} {NC : Nat} {ad : Nat → Nat} {E : Nat → (Nat → Int32) → va_E} {rv : α → Option Value} {av : List Value} {S : gw_S} {a b : α × gw_S} (e : a = b) (h : gw_M l y cc maxL ret Ts rm D cl tys NC ad E rv av S a) : gw_M l y cc maxL ret Ts rm D cl tys NC ad E rv av S b := e ▸ h
theorem gw_start {α : Type} {l : Launch} {y : MethodName} {Tb : List Cond} {rm : Room} {D : va_G} {cl : List vw_C} {tys : List (ClassId × FieldType)} {NC : Nat} {ad : Nat → Nat} {E : Nat → (Nat → Int32) → va_E} {rv : α → Option Value} {av : List Value} {S : gw_S} {ans : α × gw_S} {cc : ByteArray} {maxL : Nat} {ret : Option FieldType}
    (hT : ∀ w ∈ Tb, goodWord w = true ∨ gw_isN w = true) (hy : plainFor y = true) (hJ : gw_J NC ad) (hav : (lg_sl av).length ≤ maxL)
    (body : ∀ (X : gx_M) (A : Nat → Prop), gw_F X l cc maxL ret y.cls Tb rm D cl tys NC ad A → gw_V X (gw_P D cl NC ad E) A maxL rv S 0 (lv_args 0 av) [] ans) : gw_M l y cc maxL ret Tb rm D cl tys NC ad E rv av S ans := by
  intro sz
  refine va_MetF (cc := cc) (maxL := maxL) (ret := ret) hy rfl ?_
  intro p e s m args below meth c s₁ B hml hv
  obtain ⟨rfl, hsz, hP, hK, hN⟩ := hv
  subst hsz
  have hts := atoms_spec (ws := Cond.code y cc maxL ret :: Tb.filter goodWord) B.pre
  have hall : ∀ w ∈ Tb, w.before av.toArray s = true := by
    intro w hw
    rcases hT w hw with h | h
    · exact hts w (List.mem_cons_of_mem _ (List.mem_filter.mpr ⟨hw, h⟩))
    · exact va_Nw.use (gw_isN_tab h) (hN w hw h)
  rw [lg_entry_eq]
  exact body (p, l, e, (headSpec (Cond.code y cc maxL ret :: Tb.filter goodWord) rm).room, s, m, av.toArray, below, meth, c) (gw_A NC ad s.heap.size) ⟨B.exec, B.bytes, hml, findClass_of_methodNamed B.named, hall, rfl, B.returns, B.notSynchronized, rfl, hK, hJ, rfl⟩ s.heap [] _ hP va_S.rf (lv_entry av hav)
section GW
variable {α : Type} {X : gx_M} {l : Launch} {cc : ByteArray} {nL : Nat} {ret : Option FieldType} {own : String} {Ts : List Cond} {rm : Room} {D : va_G} {cl : List vw_C} {tys : List (ClassId × FieldType)} {NC : Nat} {ad : Nat → Nat} {A : Nat → Prop} {Wd : gw_S → Heap → Prop} {rv : α → Option Value} {S : gw_S} {pc : Nat} {lv : List (Nat × Value)} {rest : List Value} {ans : α × gw_S}
theorem gw_ans {st : List Value} {a b : α × gw_S} (h : a = b) (k : gw_V X Wd A nL rv S pc lv st b) : gw_V X Wd A nL rv S pc lv st a := h ▸ k
theorem gw_to {st st' : List Value} {S' : gw_S} (hs : S = S') (h : st = st') (k : gw_V X Wd A nL rv S' pc lv st' ans) : gw_V X Wd A nL rv S pc lv st ans := by subst hs; subst h; exact k
theorem gw_lve {st : List Value} {lv' : List (Nat × Value)} (h : lv = lv') (k : gw_V X Wd A nL rv S pc lv' st ans) : gw_V X Wd A nL rv S pc lv st ans := by subst h; exact k
theorem gw_lvs {st : List Value} {lv' : List (Nat × Value)} (ks : List Nat) (h : lv_pick lv ks = lv') (k : gw_V X Wd A nL rv S pc lv' st ans) : gw_V X Wd A nL rv S pc lv st ans := fun H locs ls hP hS hl => k H locs ls hP hS (lv_sub hl ks h)
theorem gw_nI {x : Int32} {K : Int32 → α × gw_S} (k : ∀ y : Int32, y = x → gw_V X Wd A nL rv S pc lv (.int y :: rest) (K y)) : gw_V X Wd A nL rv S pc lv (.int x :: rest) (gw_n x K) := k x rfl
theorem gw_nJ {x : Int64} {K : Int64 → α × gw_S} (k : ∀ y : Int64, y = x → gw_V X Wd A nL rv S pc lv (.long y :: rest) (K y)) : gw_V X Wd A nL rv S pc lv (.long x :: rest) (gw_n x K) := k x rfl
theorem gw_nS {T : gw_S} {st : List Value} {K : gw_S → α × gw_S} (k : ∀ U : gw_S, U = T → gw_V X Wd A nL rv U pc lv st (K U)) : gw_V X Wd A nL rv T pc lv st (gw_n T K) := k T rfl
theorem gw_spl {c : Prop} [Decidable c] {st : List Value} {a b : α × gw_S} (ka : c → gw_V X Wd A nL rv S pc lv st a) (kb : ¬ c → gw_V X Wd A nL rv S pc lv st b) : gw_V X Wd A nL rv S pc lv st (if c then a else b) := by
  by_cases h : c
  · rw [if_pos h]; exact ka h
  · rw [if_neg h]; exact kb h
theorem gw_bI {a : Int32 × gw_S} {K : Int32 → gw_S → α × gw_S} {P : Int32 → gw_S → Prop} (hp : P a.1 a.2) (k : ∀ r U, P r U → gw_V X Wd A nL rv U pc lv (.int r :: rest) (K r U)) : gw_V X Wd A nL rv a.2 pc lv ((gw_rI a.1).toList ++ rest) (gw_b a K) := k a.1 a.2 hp
theorem gw_bJ {a : Int64 × gw_S} {K : Int64 → gw_S → α × gw_S} {P : Int64 → gw_S → Prop} (hp : P a.1 a.2) (k : ∀ r U, P r U → gw_V X Wd A nL rv U pc lv (.long r :: rest) (K r U)) : gw_V X Wd A nL rv a.2 pc lv ((gw_rJ a.1).toList ++ rest) (gw_b a K) := k a.1 a.2 hp
theorem gw_bV {a : Unit × gw_S} {K : Unit → gw_S → α × gw_S} {P : Unit → gw_S → Prop} (hp : P a.1 a.2) (k : ∀ r U, P r U → gw_V X Wd A nL rv U pc lv rest (K r U)) : gw_V X Wd A nL rv a.2 pc lv ((gw_rV a.1).toList ++ rest) (gw_b a K) := k a.1 a.2 hp
theorem gw_iconst (F : gw_F X l cc nL ret own Ts rm D cl tys NC ad A) {n : Int} {v : Int32} (hd : decode cc pc = .ok (.iconst n, 1)) (hv : Int32.ofInt n = v) (k : gw_V X Wd A nL rv S (pc + 1) lv (.int v :: rest) ans) : gw_V X Wd A nL rv S pc lv rest ans := fun H locs ls hP hS hl => lv_iconst F.1 F.2.1 hd hv (k H locs ls hP hS hl)
theorem gw_bipush (F : gw_F X l cc nL ret own Ts rm D cl tys NC ad A) {n : Int} {v : Int32} (hd : decode cc pc = .ok (.bipush n, 2)) (hv : (Int8.ofInt n).toInt32 = v) (k : gw_V X Wd A nL rv S (pc + 2) lv (.int v :: rest) ans) : gw_V X Wd A nL rv S pc lv rest ans := fun H locs ls hP hS hl => lv_bipush F.1 F.2.1 hd hv (k H locs ls hP hS hl)
theorem gw_sipush (F : gw_F X l cc nL ret own Ts rm D cl tys NC ad A) {n : Int} {v : Int32} (hd : decode cc pc = .ok (.sipush n, 3)) (hv : (Int16.ofInt n).toInt32 = v) (k : gw_V X Wd A nL rv S (pc + 3) lv (.int v :: rest) ans) : gw_V X Wd A nL rv S pc lv rest ans := fun H locs ls hP hS hl => lv_sipush F.1 F.2.1 hd hv (k H locs ls hP hS hl)
theorem gw_lconst (F : gw_F X l cc nL ret own Ts rm D cl tys NC ad A) {n : Fin 2} {v : Int64} (hd : decode cc pc = .ok (.lconst n, 1)) (hv : Int64.ofNat (n : Nat) = v) (k : gw_V X Wd A nL rv S (pc + 1) lv (.long v :: rest) ans) : gw_V X Wd A nL rv S pc lv rest ans := fun H locs ls hP hS hl => lv_lconst F.1 F.2.1 hd hv (k H locs ls hP hS hl)
theorem gw_null (F : gw_F X l cc nL ret own Ts rm D cl tys NC ad A)  (hd : decode cc pc = .ok (.aconst_null, 1)) (k : gw_V X Wd A nL rv S (pc + 1) lv (.null :: rest) ans) : gw_V X Wd A nL rv S pc lv rest ans := fun H locs ls hP hS hl => lv_null F.1 F.2.1 hd (k H locs ls hP hS hl)
theorem gw_iload_n (F : gw_F X l cc nL ret own Ts rm D cl tys NC ad A) {j : Fin 4} {i : Nat} {x : Int32} (q : Nat) (hd : decode cc pc = .ok (.iload_n j, 1)) (hi : (j : Nat) = i) (hk : lv[q]? = some (i, .int x)) (k : gw_V X Wd A nL rv S (pc + 1) lv (.int x :: rest) ans) : gw_V X Wd A nL rv S pc lv rest ans := fun H locs ls hP hS hl => lv_iload_n F.1 F.2.1 hd hi (lv_at hl q hk) (k H locs ls hP hS hl)
theorem gw_iload (F : gw_F X l cc nL ret own Ts rm D cl tys NC ad A) {i : Nat} {x : Int32} (q : Nat) (hd : decode cc pc = .ok (.iload i, 2)) (hk : lv[q]? = some (i, .int x)) (k : gw_V X Wd A nL rv S (pc + 2) lv (.int x :: rest) ans) : gw_V X Wd A nL rv S pc lv rest ans := fun H locs ls hP hS hl => lv_iload F.1 F.2.1 hd (lv_at hl q hk) (k H locs ls hP hS hl)
theorem gw_istore_n (F : gw_F X l cc nL ret own Ts rm D cl tys NC ad A) {j : Fin 4} {i : Nat} {x : Int32} {lv' : List (Nat × Value)} (hd : decode cc pc = .ok (.istore_n j, 1)) (hi : (j : Nat) = i) (hn : i < nL) (he : (i, Value.int x) :: lv.filter (fun q => !(q.1 == i) && !(q.1 + 1 == i && q.2.category == 2)) = lv') (k : gw_V X Wd A nL rv S (pc + 1) lv' rest ans) : gw_V X Wd A nL rv S pc lv (.int x :: rest) ans := fun H locs ls hP hS hl => lv_istore_n F.1 F.2.1 hd hi hl hn he (fun ls2 hl2 => k H locs ls2 hP hS hl2)
theorem gw_istore (F : gw_F X l cc nL ret own Ts rm D cl tys NC ad A) {i : Nat} {x : Int32} {lv' : List (Nat × Value)} (hd : decode cc pc = .ok (.istore i, 2)) (hn : i < nL) (he : (i, Value.int x) :: lv.filter (fun q => !(q.1 == i) && !(q.1 + 1 == i && q.2.category == 2)) = lv') (k : gw_V X Wd A nL rv S (pc + 2) lv' rest ans) : gw_V X Wd A nL rv S pc lv (.int x :: rest) ans := fun H locs ls hP hS hl => lv_istore F.1 F.2.1 hd hl hn he (fun ls2 hl2 => k H locs ls2 hP hS hl2)
theorem gw_lload_n (F : gw_F X l cc nL ret own Ts rm D cl tys NC ad A) {j : Fin 4} {i : Nat} {x : Int64} (q : Nat) (hd : decode cc pc = .ok (.lload_n j, 1)) (hi : (j : Nat) = i) (hk : lv[q]? = some (i, .long x)) (k : gw_V X Wd A nL rv S (pc + 1) lv (.long x :: rest) ans) : gw_V X Wd A nL rv S pc lv rest ans := fun H locs ls hP hS hl => lv_lload_n F.1 F.2.1 hd hi (lv_at hl q hk) (k H locs ls hP hS hl)
theorem gw_lload (F : gw_F X l cc nL ret own Ts rm D cl tys NC ad A) {i : Nat} {x : Int64} (q : Nat) (hd : decode cc pc = .ok (.lload i, 2)) (hk : lv[q]? = some (i, .long x)) (k : gw_V X Wd A nL rv S (pc + 2) lv (.long x :: rest) ans) : gw_V X Wd A nL rv S pc lv rest ans := fun H locs ls hP hS hl => lv_lload F.1 F.2.1 hd (lv_at hl q hk) (k H locs ls hP hS hl)
theorem gw_lstore_n (F : gw_F X l cc nL ret own Ts rm D cl tys NC ad A) {j : Fin 4} {i : Nat} {x : Int64} {lv' : List (Nat × Value)} (hd : decode cc pc = .ok (.lstore_n j, 1)) (hi : (j : Nat) = i) (hn : i + 1 < nL) (he : (i, Value.long x) :: lv.filter (fun q => !(q.1 == i) && (!(q.1 == i + 1) && !(q.1 + 1 == i && q.2.category == 2))) = lv') (k : gw_V X Wd A nL rv S (pc + 1) lv' rest ans) : gw_V X Wd A nL rv S pc lv (.long x :: rest) ans := fun H locs ls hP hS hl => lv_lstore_n F.1 F.2.1 hd hi hl hn he (fun ls2 hl2 => k H locs ls2 hP hS hl2)
theorem gw_lstore (F : gw_F X l cc nL ret own Ts rm D cl tys NC ad A) {i : Nat} {x : Int64} {lv' : List (Nat × Value)} (hd : decode cc pc = .ok (.lstore i, 2)) (hn : i + 1 < nL) (he : (i, Value.long x) :: lv.filter (fun q => !(q.1 == i) && (!(q.1 == i + 1) && !(q.1 + 1 == i && q.2.category == 2))) = lv') (k : gw_V X Wd A nL rv S (pc + 2) lv' rest ans) : gw_V X Wd A nL rv S pc lv (.long x :: rest) ans := fun H locs ls hP hS hl => lv_lstore F.1 F.2.1 hd hl hn he (fun ls2 hl2 => k H locs ls2 hP hS hl2)
theorem gw_aload_n (F : gw_F X l cc nL ret own Ts rm D cl tys NC ad A) {j : Fin 4} {i : Nat} {x : Nat} (q : Nat) (hd : decode cc pc = .ok (.aload_n j, 1)) (hi : (j : Nat) = i) (hk : lv[q]? = some (i, .ref x)) (k : gw_V X Wd A nL rv S (pc + 1) lv (.ref x :: rest) ans) : gw_V X Wd A nL rv S pc lv rest ans := fun H locs ls hP hS hl => lv_aload_n F.1 F.2.1 hd hi (lv_at hl q hk) (k H locs ls hP hS hl)
theorem gw_aload (F : gw_F X l cc nL ret own Ts rm D cl tys NC ad A) {i : Nat} {x : Nat} (q : Nat) (hd : decode cc pc = .ok (.aload i, 2)) (hk : lv[q]? = some (i, .ref x)) (k : gw_V X Wd A nL rv S (pc + 2) lv (.ref x :: rest) ans) : gw_V X Wd A nL rv S pc lv rest ans := fun H locs ls hP hS hl => lv_aload F.1 F.2.1 hd (lv_at hl q hk) (k H locs ls hP hS hl)
theorem gw_astore_n (F : gw_F X l cc nL ret own Ts rm D cl tys NC ad A) {j : Fin 4} {i : Nat} {x : Nat} {lv' : List (Nat × Value)} (hd : decode cc pc = .ok (.astore_n j, 1)) (hi : (j : Nat) = i) (hn : i < nL) (he : (i, Value.ref x) :: lv.filter (fun q => !(q.1 == i) && !(q.1 + 1 == i && q.2.category == 2)) = lv') (k : gw_V X Wd A nL rv S (pc + 1) lv' rest ans) : gw_V X Wd A nL rv S pc lv (.ref x :: rest) ans := fun H locs ls hP hS hl => lv_astore_n F.1 F.2.1 hd hi hl hn he (fun ls2 hl2 => k H locs ls2 hP hS hl2)
theorem gw_astore (F : gw_F X l cc nL ret own Ts rm D cl tys NC ad A) {i : Nat} {x : Nat} {lv' : List (Nat × Value)} (hd : decode cc pc = .ok (.astore i, 2)) (hn : i < nL) (he : (i, Value.ref x) :: lv.filter (fun q => !(q.1 == i) && !(q.1 + 1 == i && q.2.category == 2)) = lv') (k : gw_V X Wd A nL rv S (pc + 2) lv' rest ans) : gw_V X Wd A nL rv S pc lv (.ref x :: rest) ans := fun H locs ls hP hS hl => lv_astore F.1 F.2.1 hd hl hn he (fun ls2 hl2 => k H locs ls2 hP hS hl2)
theorem gw_aload_nN (F : gw_F X l cc nL ret own Ts rm D cl tys NC ad A) {j : Fin 4} {i : Nat} (q : Nat) (hd : decode cc pc = .ok (.aload_n j, 1)) (hi : (j : Nat) = i) (hk : lv[q]? = some (i, .null)) (k : gw_V X Wd A nL rv S (pc + 1) lv (.null :: rest) ans) : gw_V X Wd A nL rv S pc lv rest ans := fun H locs ls hP hS hl => lv_aload_nN F.1 F.2.1 hd hi (lv_at hl q hk) (k H locs ls hP hS hl)
theorem gw_aloadN (F : gw_F X l cc nL ret own Ts rm D cl tys NC ad A) {i : Nat} (q : Nat) (hd : decode cc pc = .ok (.aload i, 2)) (hk : lv[q]? = some (i, .null)) (k : gw_V X Wd A nL rv S (pc + 2) lv (.null :: rest) ans) : gw_V X Wd A nL rv S pc lv rest ans := fun H locs ls hP hS hl => lv_aloadN F.1 F.2.1 hd (lv_at hl q hk) (k H locs ls hP hS hl)
theorem gw_astore_nN (F : gw_F X l cc nL ret own Ts rm D cl tys NC ad A) {j : Fin 4} {i : Nat} {lv' : List (Nat × Value)} (hd : decode cc pc = .ok (.astore_n j, 1)) (hi : (j : Nat) = i) (hn : i < nL) (he : (i, Value.null) :: lv.filter (fun q => !(q.1 == i) && !(q.1 + 1 == i && q.2.category == 2)) = lv') (k : gw_V X Wd A nL rv S (pc + 1) lv' rest ans) : gw_V X Wd A nL rv S pc lv (.null :: rest) ans := fun H locs ls hP hS hl => lv_astore_nN F.1 F.2.1 hd hi hl hn he (fun ls2 hl2 => k H locs ls2 hP hS hl2)
theorem gw_astoreN (F : gw_F X l cc nL ret own Ts rm D cl tys NC ad A) {i : Nat} {lv' : List (Nat × Value)} (hd : decode cc pc = .ok (.astore i, 2)) (hn : i < nL) (he : (i, Value.null) :: lv.filter (fun q => !(q.1 == i) && !(q.1 + 1 == i && q.2.category == 2)) = lv') (k : gw_V X Wd A nL rv S (pc + 2) lv' rest ans) : gw_V X Wd A nL rv S pc lv (.null :: rest) ans := fun H locs ls hP hS hl => lv_astoreN F.1 F.2.1 hd hl hn he (fun ls2 hl2 => k H locs ls2 hP hS hl2)
theorem gw_iinc (F : gw_F X l cc nL ret own Ts rm D cl tys NC ad A) {i : Nat} {n : Int} {x v : Int32} {lv' : List (Nat × Value)} (q : Nat) (hd : decode cc pc = .ok (.iinc i n, 3)) (hk : lv[q]? = some (i, .int x)) (hv : x + Int32.ofInt n = v) (hn : i < nL) (he : (i, Value.int v) :: lv.filter (fun q => !(q.1 == i) && !(q.1 + 1 == i && q.2.category == 2)) = lv') (k : gw_V X Wd A nL rv S (pc + 3) lv' rest ans) : gw_V X Wd A nL rv S pc lv rest ans := fun H locs ls hP hS hl => lv_iinc F.1 F.2.1 hd hl hk hv hn he (fun ls2 hl2 => k H locs ls2 hP hS hl2)
theorem gw_iadd (F : gw_F X l cc nL ret own Ts rm D cl tys NC ad A) {x y : Int32} (hd : decode cc pc = .ok (.iadd, 1)) (k : gw_V X Wd A nL rv S (pc + 1) lv (.int (x + y) :: rest) ans) : gw_V X Wd A nL rv S pc lv (.int y :: .int x :: rest) ans := fun H locs ls hP hS hl => lv_iadd F.1 F.2.1 hd (k H locs ls hP hS hl)
theorem gw_isub (F : gw_F X l cc nL ret own Ts rm D cl tys NC ad A) {x y : Int32} (hd : decode cc pc = .ok (.isub, 1)) (k : gw_V X Wd A nL rv S (pc + 1) lv (.int (x - y) :: rest) ans) : gw_V X Wd A nL rv S pc lv (.int y :: .int x :: rest) ans := fun H locs ls hP hS hl => lv_isub F.1 F.2.1 hd (k H locs ls hP hS hl)
theorem gw_imul (F : gw_F X l cc nL ret own Ts rm D cl tys NC ad A) {x y : Int32} (hd : decode cc pc = .ok (.imul, 1)) (k : gw_V X Wd A nL rv S (pc + 1) lv (.int (x * y) :: rest) ans) : gw_V X Wd A nL rv S pc lv (.int y :: .int x :: rest) ans := fun H locs ls hP hS hl => lv_imul F.1 F.2.1 hd (k H locs ls hP hS hl)
theorem gw_iand (F : gw_F X l cc nL ret own Ts rm D cl tys NC ad A) {x y : Int32} (hd : decode cc pc = .ok (.iand, 1)) (k : gw_V X Wd A nL rv S (pc + 1) lv (.int (x &&& y) :: rest) ans) : gw_V X Wd A nL rv S pc lv (.int y :: .int x :: rest) ans := fun H locs ls hP hS hl => lv_iand F.1 F.2.1 hd (k H locs ls hP hS hl)
theorem gw_ior (F : gw_F X l cc nL ret own Ts rm D cl tys NC ad A) {x y : Int32} (hd : decode cc pc = .ok (.ior, 1)) (k : gw_V X Wd A nL rv S (pc + 1) lv (.int (x ||| y) :: rest) ans) : gw_V X Wd A nL rv S pc lv (.int y :: .int x :: rest) ans := fun H locs ls hP hS hl => lv_ior F.1 F.2.1 hd (k H locs ls hP hS hl)
theorem gw_ixor (F : gw_F X l cc nL ret own Ts rm D cl tys NC ad A) {x y : Int32} (hd : decode cc pc = .ok (.ixor, 1)) (k : gw_V X Wd A nL rv S (pc + 1) lv (.int (x ^^^ y) :: rest) ans) : gw_V X Wd A nL rv S pc lv (.int y :: .int x :: rest) ans := fun H locs ls hP hS hl => lv_ixor F.1 F.2.1 hd (k H locs ls hP hS hl)
theorem gw_ishl (F : gw_F X l cc nL ret own Ts rm D cl tys NC ad A) {x y : Int32} (hd : decode cc pc = .ok (.ishl, 1)) (k : gw_V X Wd A nL rv S (pc + 1) lv (.int (x <<< (y &&& 31)) :: rest) ans) : gw_V X Wd A nL rv S pc lv (.int y :: .int x :: rest) ans := fun H locs ls hP hS hl => lv_ishl F.1 F.2.1 hd (k H locs ls hP hS hl)
theorem gw_ishr (F : gw_F X l cc nL ret own Ts rm D cl tys NC ad A) {x y : Int32} (hd : decode cc pc = .ok (.ishr, 1)) (k : gw_V X Wd A nL rv S (pc + 1) lv (.int (x >>> (y &&& 31)) :: rest) ans) : gw_V X Wd A nL rv S pc lv (.int y :: .int x :: rest) ans := fun H locs ls hP hS hl => lv_ishr F.1 F.2.1 hd (k H locs ls hP hS hl)
theorem gw_idiv (F : gw_F X l cc nL ret own Ts rm D cl tys NC ad A) {x y : Int32} (hd : decode cc pc = .ok (.idiv, 1)) (hne : ¬ y = 0) (k : gw_V X Wd A nL rv S (pc + 1) lv (.int (x / y) :: rest) ans) : gw_V X Wd A nL rv S pc lv (.int y :: .int x :: rest) ans := fun H locs ls hP hS hl => lv_idiv F.1 F.2.1 hd hne (k H locs ls hP hS hl)
theorem gw_irem (F : gw_F X l cc nL ret own Ts rm D cl tys NC ad A) {x y : Int32} (hd : decode cc pc = .ok (.irem, 1)) (hne : ¬ y = 0) (k : gw_V X Wd A nL rv S (pc + 1) lv (.int (x - x / y * y) :: rest) ans) : gw_V X Wd A nL rv S pc lv (.int y :: .int x :: rest) ans := fun H locs ls hP hS hl => lv_irem F.1 F.2.1 hd hne (k H locs ls hP hS hl)
theorem gw_ineg (F : gw_F X l cc nL ret own Ts rm D cl tys NC ad A) {x : Int32} (hd : decode cc pc = .ok (.ineg, 1)) (k : gw_V X Wd A nL rv S (pc + 1) lv (.int (-x) :: rest) ans) : gw_V X Wd A nL rv S pc lv (.int x :: rest) ans := fun H locs ls hP hS hl => lv_ineg F.1 F.2.1 hd (k H locs ls hP hS hl)
theorem gw_ladd (F : gw_F X l cc nL ret own Ts rm D cl tys NC ad A) {x y : Int64} (hd : decode cc pc = .ok (.ladd, 1)) (k : gw_V X Wd A nL rv S (pc + 1) lv (.long (x + y) :: rest) ans) : gw_V X Wd A nL rv S pc lv (.long y :: .long x :: rest) ans := fun H locs ls hP hS hl => lv_ladd F.1 F.2.1 hd (k H locs ls hP hS hl)
theorem gw_lsub (F : gw_F X l cc nL ret own Ts rm D cl tys NC ad A) {x y : Int64} (hd : decode cc pc = .ok (.lsub, 1)) (k : gw_V X Wd A nL rv S (pc + 1) lv (.long (x - y) :: rest) ans) : gw_V X Wd A nL rv S pc lv (.long y :: .long x :: rest) ans := fun H locs ls hP hS hl => lv_lsub F.1 F.2.1 hd (k H locs ls hP hS hl)
theorem gw_lmul (F : gw_F X l cc nL ret own Ts rm D cl tys NC ad A) {x y : Int64} (hd : decode cc pc = .ok (.lmul, 1)) (k : gw_V X Wd A nL rv S (pc + 1) lv (.long (x * y) :: rest) ans) : gw_V X Wd A nL rv S pc lv (.long y :: .long x :: rest) ans := fun H locs ls hP hS hl => lv_lmul F.1 F.2.1 hd (k H locs ls hP hS hl)
theorem gw_land (F : gw_F X l cc nL ret own Ts rm D cl tys NC ad A) {x y : Int64} (hd : decode cc pc = .ok (.land, 1)) (k : gw_V X Wd A nL rv S (pc + 1) lv (.long (x &&& y) :: rest) ans) : gw_V X Wd A nL rv S pc lv (.long y :: .long x :: rest) ans := fun H locs ls hP hS hl => lv_land F.1 F.2.1 hd (k H locs ls hP hS hl)
theorem gw_lor (F : gw_F X l cc nL ret own Ts rm D cl tys NC ad A) {x y : Int64} (hd : decode cc pc = .ok (.lor, 1)) (k : gw_V X Wd A nL rv S (pc + 1) lv (.long (x ||| y) :: rest) ans) : gw_V X Wd A nL rv S pc lv (.long y :: .long x :: rest) ans := fun H locs ls hP hS hl => lv_lor F.1 F.2.1 hd (k H locs ls hP hS hl)
theorem gw_lxor (F : gw_F X l cc nL ret own Ts rm D cl tys NC ad A) {x y : Int64} (hd : decode cc pc = .ok (.lxor, 1)) (k : gw_V X Wd A nL rv S (pc + 1) lv (.long (x ^^^ y) :: rest) ans) : gw_V X Wd A nL rv S pc lv (.long y :: .long x :: rest) ans := fun H locs ls hP hS hl => lv_lxor F.1 F.2.1 hd (k H locs ls hP hS hl)
theorem gw_ldiv (F : gw_F X l cc nL ret own Ts rm D cl tys NC ad A) {x y : Int64} (hd : decode cc pc = .ok (.ldiv, 1)) (hne : ¬ y = 0) (k : gw_V X Wd A nL rv S (pc + 1) lv (.long (x / y) :: rest) ans) : gw_V X Wd A nL rv S pc lv (.long y :: .long x :: rest) ans := fun H locs ls hP hS hl => lv_ldiv F.1 F.2.1 hd hne (k H locs ls hP hS hl)
theorem gw_lrem (F : gw_F X l cc nL ret own Ts rm D cl tys NC ad A) {x y : Int64} (hd : decode cc pc = .ok (.lrem, 1)) (hne : ¬ y = 0) (k : gw_V X Wd A nL rv S (pc + 1) lv (.long (x - x / y * y) :: rest) ans) : gw_V X Wd A nL rv S pc lv (.long y :: .long x :: rest) ans := fun H locs ls hP hS hl => lv_lrem F.1 F.2.1 hd hne (k H locs ls hP hS hl)
theorem gw_lcmp (F : gw_F X l cc nL ret own Ts rm D cl tys NC ad A) {x y : Int64} (hd : decode cc pc = .ok (.lcmp, 1)) (k : gw_V X Wd A nL rv S (pc + 1) lv (.int (lg_cmp x y) :: rest) ans) : gw_V X Wd A nL rv S pc lv (.long y :: .long x :: rest) ans := fun H locs ls hP hS hl => W.lcmp F.1 F.2.1 hd (k H locs ls hP hS hl)
theorem gw_lshl (F : gw_F X l cc nL ret own Ts rm D cl tys NC ad A) {x : Int64} {y : Int32} (hd : decode cc pc = .ok (.lshl, 1)) (k : gw_V X Wd A nL rv S (pc + 1) lv (.long (x <<< (y.toInt64 &&& 63)) :: rest) ans) : gw_V X Wd A nL rv S pc lv (.int y :: .long x :: rest) ans := fun H locs ls hP hS hl => lv_lshl F.1 F.2.1 hd rfl (k H locs ls hP hS hl)
theorem gw_lshr (F : gw_F X l cc nL ret own Ts rm D cl tys NC ad A) {x : Int64} {y : Int32} (hd : decode cc pc = .ok (.lshr, 1)) (k : gw_V X Wd A nL rv S (pc + 1) lv (.long (x >>> (y.toInt64 &&& 63)) :: rest) ans) : gw_V X Wd A nL rv S pc lv (.int y :: .long x :: rest) ans := fun H locs ls hP hS hl => lv_lshr F.1 F.2.1 hd rfl (k H locs ls hP hS hl)
theorem gw_i2l (F : gw_F X l cc nL ret own Ts rm D cl tys NC ad A) {x : Int32} (hd : decode cc pc = .ok (.i2l, 1)) (k : gw_V X Wd A nL rv S (pc + 1) lv (.long x.toInt64 :: rest) ans) : gw_V X Wd A nL rv S pc lv (.int x :: rest) ans := fun H locs ls hP hS hl => lv_i2l F.1 F.2.1 hd rfl (k H locs ls hP hS hl)
theorem gw_l2i (F : gw_F X l cc nL ret own Ts rm D cl tys NC ad A) {x : Int64} (hd : decode cc pc = .ok (.l2i, 1)) (k : gw_V X Wd A nL rv S (pc + 1) lv (.int x.toInt32 :: rest) ans) : gw_V X Wd A nL rv S pc lv (.long x :: rest) ans := fun H locs ls hP hS hl => lv_l2i F.1 F.2.1 hd rfl (k H locs ls hP hS hl)
theorem gw_i2b (F : gw_F X l cc nL ret own Ts rm D cl tys NC ad A) {x : Int32} (hd : decode cc pc = .ok (.i2b, 1)) (k : gw_V X Wd A nL rv S (pc + 1) lv (.int x.toInt8.toInt32 :: rest) ans) : gw_V X Wd A nL rv S pc lv (.int x :: rest) ans := fun H locs ls hP hS hl => lv_i2b F.1 F.2.1 hd rfl (k H locs ls hP hS hl)
theorem gw_i2s (F : gw_F X l cc nL ret own Ts rm D cl tys NC ad A) {x : Int32} (hd : decode cc pc = .ok (.i2s, 1)) (k : gw_V X Wd A nL rv S (pc + 1) lv (.int x.toInt16.toInt32 :: rest) ans) : gw_V X Wd A nL rv S pc lv (.int x :: rest) ans := fun H locs ls hP hS hl => lv_i2s F.1 F.2.1 hd rfl (k H locs ls hP hS hl)
theorem gw_dup (F : gw_F X l cc nL ret own Ts rm D cl tys NC ad A) {va : Value} (hd : decode cc pc = .ok (.dup, 1)) (hva : va.category = 1) (k : gw_V X Wd A nL rv S (pc + 1) lv (va :: va :: rest) ans) : gw_V X Wd A nL rv S pc lv (va :: rest) ans := fun H locs ls hP hS hl => lv_dup F.1 F.2.1 hd hva (k H locs ls hP hS hl)
theorem gw_pop (F : gw_F X l cc nL ret own Ts rm D cl tys NC ad A) {va : Value} (hd : decode cc pc = .ok (.pop, 1)) (hva : va.category = 1) (k : gw_V X Wd A nL rv S (pc + 1) lv rest ans) : gw_V X Wd A nL rv S pc lv (va :: rest) ans := fun H locs ls hP hS hl => lv_pop F.1 F.2.1 hd hva (k H locs ls hP hS hl)
theorem gw_dup_x1 (F : gw_F X l cc nL ret own Ts rm D cl tys NC ad A) {va vb : Value} (hd : decode cc pc = .ok (.dup_x1, 1)) (hva : va.category = 1) (hvb : vb.category = 1) (k : gw_V X Wd A nL rv S (pc + 1) lv (va :: vb :: va :: rest) ans) : gw_V X Wd A nL rv S pc lv (va :: vb :: rest) ans := fun H locs ls hP hS hl => lv_dup_x1 F.1 F.2.1 hd hva hvb (k H locs ls hP hS hl)
theorem gw_dup2 (F : gw_F X l cc nL ret own Ts rm D cl tys NC ad A) {va vb : Value} (hd : decode cc pc = .ok (.dup2, 1)) (hva : va.category = 1) (hvb : vb.category = 1) (k : gw_V X Wd A nL rv S (pc + 1) lv (va :: vb :: va :: vb :: rest) ans) : gw_V X Wd A nL rv S pc lv (va :: vb :: rest) ans := fun H locs ls hP hS hl => lv_dup2_11 F.1 F.2.1 hd hva hvb (k H locs ls hP hS hl)
theorem gw_if_eq (F : gw_F X l cc nL ret own Ts rm D cl tys NC ad A) {x : Int32} {off : Int} {tgt : Nat} (hd : decode cc pc = .ok (.ifCond .eq off, 3)) (ht : (pc : Int) + off = (tgt : Int)) (kt : x = 0 → gw_V X Wd A nL rv S tgt lv rest ans) (kf : ¬ x = 0 → gw_V X Wd A nL rv S (pc + 3) lv rest ans) : gw_V X Wd A nL rv S pc lv (.int x :: rest) ans := fun H locs ls hP hS hl => lv_if_eq F.1 F.2.1 hd ht (fun h => kt h H locs ls hP hS hl) (fun h => kf h H locs ls hP hS hl)
theorem gw_if_eqS (F : gw_F X l cc nL ret own Ts rm D cl tys NC ad A) {x : Int32} {off : Int} {tgt : Nat} {a b : α × gw_S} (hd : decode cc pc = .ok (.ifCond .eq off, 3)) (ht : (pc : Int) + off = (tgt : Int)) (kt : x = 0 → gw_V X Wd A nL rv S tgt lv rest a) (kf : ¬ x = 0 → gw_V X Wd A nL rv S (pc + 3) lv rest b) : gw_V X Wd A nL rv S pc lv (.int x :: rest) (if x = 0 then a else b) := gw_if_eq F hd ht (fun h => gw_ans (if_pos h) (kt h)) (fun h => gw_ans (if_neg h) (kf h))
theorem gw_if_eqT (F : gw_F X l cc nL ret own Ts rm D cl tys NC ad A) {x : Int32} {off : Int} {tgt : Nat} (hd : decode cc pc = .ok (.ifCond .eq off, 3)) (ht : (pc : Int) + off = (tgt : Int)) (hc : x = 0) (kt : gw_V X Wd A nL rv S tgt lv rest ans) : gw_V X Wd A nL rv S pc lv (.int x :: rest) ans := gw_if_eq F hd ht (fun _ => kt) (fun h => absurd hc h)
theorem gw_if_eqN (F : gw_F X l cc nL ret own Ts rm D cl tys NC ad A) {x : Int32} {off : Int} (tgt : Nat) (hd : decode cc pc = .ok (.ifCond .eq off, 3)) (ht : (pc : Int) + off = (tgt : Int)) (hc : ¬ x = 0) (kf : gw_V X Wd A nL rv S (pc + 3) lv rest ans) : gw_V X Wd A nL rv S pc lv (.int x :: rest) ans := gw_if_eq F hd ht (fun h => absurd h hc) (fun _ => kf)
theorem gw_if_ne (F : gw_F X l cc nL ret own Ts rm D cl tys NC ad A) {x : Int32} {off : Int} {tgt : Nat} (hd : decode cc pc = .ok (.ifCond .ne off, 3)) (ht : (pc : Int) + off = (tgt : Int)) (kt : ¬ x = 0 → gw_V X Wd A nL rv S tgt lv rest ans) (kf : x = 0 → gw_V X Wd A nL rv S (pc + 3) lv rest ans) : gw_V X Wd A nL rv S pc lv (.int x :: rest) ans := fun H locs ls hP hS hl => lv_if_ne F.1 F.2.1 hd ht (fun h => kt h H locs ls hP hS hl) (fun h => kf h H locs ls hP hS hl)
theorem gw_if_neS (F : gw_F X l cc nL ret own Ts rm D cl tys NC ad A) {x : Int32} {off : Int} {tgt : Nat} {a b : α × gw_S} (hd : decode cc pc = .ok (.ifCond .ne off, 3)) (ht : (pc : Int) + off = (tgt : Int)) (kt : ¬ x = 0 → gw_V X Wd A nL rv S tgt lv rest b) (kf : x = 0 → gw_V X Wd A nL rv S (pc + 3) lv rest a) : gw_V X Wd A nL rv S pc lv (.int x :: rest) (if x = 0 then a else b) := gw_if_ne F hd ht (fun h => gw_ans (if_neg h) (kt h)) (fun h => gw_ans (if_pos h) (kf h))
theorem gw_if_neT (F : gw_F X l cc nL ret own Ts rm D cl tys NC ad A) {x : Int32} {off : Int} {tgt : Nat} (hd : decode cc pc = .ok (.ifCond .ne off, 3)) (ht : (pc : Int) + off = (tgt : Int)) (hc : ¬ x = 0) (kt : gw_V X Wd A nL rv S tgt lv rest ans) : gw_V X Wd A nL rv S pc lv (.int x :: rest) ans := gw_if_ne F hd ht (fun _ => kt) (fun h => absurd h hc)
theorem gw_if_neN (F : gw_F X l cc nL ret own Ts rm D cl tys NC ad A) {x : Int32} {off : Int} (tgt : Nat) (hd : decode cc pc = .ok (.ifCond .ne off, 3)) (ht : (pc : Int) + off = (tgt : Int)) (hc : x = 0) (kf : gw_V X Wd A nL rv S (pc + 3) lv rest ans) : gw_V X Wd A nL rv S pc lv (.int x :: rest) ans := gw_if_ne F hd ht (fun h => absurd hc h) (fun _ => kf)
theorem gw_if_lt (F : gw_F X l cc nL ret own Ts rm D cl tys NC ad A) {x : Int32} {off : Int} {tgt : Nat} (hd : decode cc pc = .ok (.ifCond .lt off, 3)) (ht : (pc : Int) + off = (tgt : Int)) (kt : x < 0 → gw_V X Wd A nL rv S tgt lv rest ans) (kf : ¬ x < 0 → gw_V X Wd A nL rv S (pc + 3) lv rest ans) : gw_V X Wd A nL rv S pc lv (.int x :: rest) ans := fun H locs ls hP hS hl => lv_if_lt F.1 F.2.1 hd ht (fun h => kt h H locs ls hP hS hl) (fun h => kf h H locs ls hP hS hl)
theorem gw_if_ltS (F : gw_F X l cc nL ret own Ts rm D cl tys NC ad A) {x : Int32} {off : Int} {tgt : Nat} {a b : α × gw_S} (hd : decode cc pc = .ok (.ifCond .lt off, 3)) (ht : (pc : Int) + off = (tgt : Int)) (kt : x < 0 → gw_V X Wd A nL rv S tgt lv rest a) (kf : ¬ x < 0 → gw_V X Wd A nL rv S (pc + 3) lv rest b) : gw_V X Wd A nL rv S pc lv (.int x :: rest) (if x < 0 then a else b) := gw_if_lt F hd ht (fun h => gw_ans (if_pos h) (kt h)) (fun h => gw_ans (if_neg h) (kf h))
theorem gw_if_ltT (F : gw_F X l cc nL ret own Ts rm D cl tys NC ad A) {x : Int32} {off : Int} {tgt : Nat} (hd : decode cc pc = .ok (.ifCond .lt off, 3)) (ht : (pc : Int) + off = (tgt : Int)) (hc : x < 0) (kt : gw_V X Wd A nL rv S tgt lv rest ans) : gw_V X Wd A nL rv S pc lv (.int x :: rest) ans := gw_if_lt F hd ht (fun _ => kt) (fun h => absurd hc h)
theorem gw_if_ltN (F : gw_F X l cc nL ret own Ts rm D cl tys NC ad A) {x : Int32} {off : Int} (tgt : Nat) (hd : decode cc pc = .ok (.ifCond .lt off, 3)) (ht : (pc : Int) + off = (tgt : Int)) (hc : ¬ x < 0) (kf : gw_V X Wd A nL rv S (pc + 3) lv rest ans) : gw_V X Wd A nL rv S pc lv (.int x :: rest) ans := gw_if_lt F hd ht (fun h => absurd h hc) (fun _ => kf)
theorem gw_if_ge (F : gw_F X l cc nL ret own Ts rm D cl tys NC ad A) {x : Int32} {off : Int} {tgt : Nat} (hd : decode cc pc = .ok (.ifCond .ge off, 3)) (ht : (pc : Int) + off = (tgt : Int)) (kt : 0 ≤ x → gw_V X Wd A nL rv S tgt lv rest ans) (kf : ¬ 0 ≤ x → gw_V X Wd A nL rv S (pc + 3) lv rest ans) : gw_V X Wd A nL rv S pc lv (.int x :: rest) ans := fun H locs ls hP hS hl => lv_if_ge F.1 F.2.1 hd ht (fun h => kt h H locs ls hP hS hl) (fun h => kf h H locs ls hP hS hl)
theorem gw_if_geS (F : gw_F X l cc nL ret own Ts rm D cl tys NC ad A) {x : Int32} {off : Int} {tgt : Nat} {a b : α × gw_S} (hd : decode cc pc = .ok (.ifCond .ge off, 3)) (ht : (pc : Int) + off = (tgt : Int)) (kt : 0 ≤ x → gw_V X Wd A nL rv S tgt lv rest a) (kf : ¬ 0 ≤ x → gw_V X Wd A nL rv S (pc + 3) lv rest b) : gw_V X Wd A nL rv S pc lv (.int x :: rest) (if 0 ≤ x then a else b) := gw_if_ge F hd ht (fun h => gw_ans (if_pos h) (kt h)) (fun h => gw_ans (if_neg h) (kf h))
theorem gw_if_geT (F : gw_F X l cc nL ret own Ts rm D cl tys NC ad A) {x : Int32} {off : Int} {tgt : Nat} (hd : decode cc pc = .ok (.ifCond .ge off, 3)) (ht : (pc : Int) + off = (tgt : Int)) (hc : 0 ≤ x) (kt : gw_V X Wd A nL rv S tgt lv rest ans) : gw_V X Wd A nL rv S pc lv (.int x :: rest) ans := gw_if_ge F hd ht (fun _ => kt) (fun h => absurd hc h)
theorem gw_if_geN (F : gw_F X l cc nL ret own Ts rm D cl tys NC ad A) {x : Int32} {off : Int} (tgt : Nat) (hd : decode cc pc = .ok (.ifCond .ge off, 3)) (ht : (pc : Int) + off = (tgt : Int)) (hc : ¬ 0 ≤ x) (kf : gw_V X Wd A nL rv S (pc + 3) lv rest ans) : gw_V X Wd A nL rv S pc lv (.int x :: rest) ans := gw_if_ge F hd ht (fun h => absurd h hc) (fun _ => kf)
theorem gw_if_gt (F : gw_F X l cc nL ret own Ts rm D cl tys NC ad A) {x : Int32} {off : Int} {tgt : Nat} (hd : decode cc pc = .ok (.ifCond .gt off, 3)) (ht : (pc : Int) + off = (tgt : Int)) (kt : 0 < x → gw_V X Wd A nL rv S tgt lv rest ans) (kf : ¬ 0 < x → gw_V X Wd A nL rv S (pc + 3) lv rest ans) : gw_V X Wd A nL rv S pc lv (.int x :: rest) ans := fun H locs ls hP hS hl => lv_if_gt F.1 F.2.1 hd ht (fun h => kt h H locs ls hP hS hl) (fun h => kf h H locs ls hP hS hl)
theorem gw_if_gtS (F : gw_F X l cc nL ret own Ts rm D cl tys NC ad A) {x : Int32} {off : Int} {tgt : Nat} {a b : α × gw_S} (hd : decode cc pc = .ok (.ifCond .gt off, 3)) (ht : (pc : Int) + off = (tgt : Int)) (kt : 0 < x → gw_V X Wd A nL rv S tgt lv rest a) (kf : ¬ 0 < x → gw_V X Wd A nL rv S (pc + 3) lv rest b) : gw_V X Wd A nL rv S pc lv (.int x :: rest) (if 0 < x then a else b) := gw_if_gt F hd ht (fun h => gw_ans (if_pos h) (kt h)) (fun h => gw_ans (if_neg h) (kf h))
theorem gw_if_gtT (F : gw_F X l cc nL ret own Ts rm D cl tys NC ad A) {x : Int32} {off : Int} {tgt : Nat} (hd : decode cc pc = .ok (.ifCond .gt off, 3)) (ht : (pc : Int) + off = (tgt : Int)) (hc : 0 < x) (kt : gw_V X Wd A nL rv S tgt lv rest ans) : gw_V X Wd A nL rv S pc lv (.int x :: rest) ans := gw_if_gt F hd ht (fun _ => kt) (fun h => absurd hc h)
theorem gw_if_gtN (F : gw_F X l cc nL ret own Ts rm D cl tys NC ad A) {x : Int32} {off : Int} (tgt : Nat) (hd : decode cc pc = .ok (.ifCond .gt off, 3)) (ht : (pc : Int) + off = (tgt : Int)) (hc : ¬ 0 < x) (kf : gw_V X Wd A nL rv S (pc + 3) lv rest ans) : gw_V X Wd A nL rv S pc lv (.int x :: rest) ans := gw_if_gt F hd ht (fun h => absurd h hc) (fun _ => kf)
theorem gw_if_le (F : gw_F X l cc nL ret own Ts rm D cl tys NC ad A) {x : Int32} {off : Int} {tgt : Nat} (hd : decode cc pc = .ok (.ifCond .le off, 3)) (ht : (pc : Int) + off = (tgt : Int)) (kt : x ≤ 0 → gw_V X Wd A nL rv S tgt lv rest ans) (kf : ¬ x ≤ 0 → gw_V X Wd A nL rv S (pc + 3) lv rest ans) : gw_V X Wd A nL rv S pc lv (.int x :: rest) ans := fun H locs ls hP hS hl => lv_if_le F.1 F.2.1 hd ht (fun h => kt h H locs ls hP hS hl) (fun h => kf h H locs ls hP hS hl)
theorem gw_if_leS (F : gw_F X l cc nL ret own Ts rm D cl tys NC ad A) {x : Int32} {off : Int} {tgt : Nat} {a b : α × gw_S} (hd : decode cc pc = .ok (.ifCond .le off, 3)) (ht : (pc : Int) + off = (tgt : Int)) (kt : x ≤ 0 → gw_V X Wd A nL rv S tgt lv rest a) (kf : ¬ x ≤ 0 → gw_V X Wd A nL rv S (pc + 3) lv rest b) : gw_V X Wd A nL rv S pc lv (.int x :: rest) (if x ≤ 0 then a else b) := gw_if_le F hd ht (fun h => gw_ans (if_pos h) (kt h)) (fun h => gw_ans (if_neg h) (kf h))
theorem gw_if_leT (F : gw_F X l cc nL ret own Ts rm D cl tys NC ad A) {x : Int32} {off : Int} {tgt : Nat} (hd : decode cc pc = .ok (.ifCond .le off, 3)) (ht : (pc : Int) + off = (tgt : Int)) (hc : x ≤ 0) (kt : gw_V X Wd A nL rv S tgt lv rest ans) : gw_V X Wd A nL rv S pc lv (.int x :: rest) ans := gw_if_le F hd ht (fun _ => kt) (fun h => absurd hc h)
theorem gw_if_leN (F : gw_F X l cc nL ret own Ts rm D cl tys NC ad A) {x : Int32} {off : Int} (tgt : Nat) (hd : decode cc pc = .ok (.ifCond .le off, 3)) (ht : (pc : Int) + off = (tgt : Int)) (hc : ¬ x ≤ 0) (kf : gw_V X Wd A nL rv S (pc + 3) lv rest ans) : gw_V X Wd A nL rv S pc lv (.int x :: rest) ans := gw_if_le F hd ht (fun h => absurd h hc) (fun _ => kf)
theorem gw_icmp_eq (F : gw_F X l cc nL ret own Ts rm D cl tys NC ad A) {x y : Int32} {off : Int} {tgt : Nat} (hd : decode cc pc = .ok (.if_icmp .eq off, 3)) (ht : (pc : Int) + off = (tgt : Int)) (kt : x = y → gw_V X Wd A nL rv S tgt lv rest ans) (kf : ¬ x = y → gw_V X Wd A nL rv S (pc + 3) lv rest ans) : gw_V X Wd A nL rv S pc lv (.int y :: .int x :: rest) ans := fun H locs ls hP hS hl => lv_icmp_eq F.1 F.2.1 hd ht (fun h => kt h H locs ls hP hS hl) (fun h => kf h H locs ls hP hS hl)
theorem gw_icmp_eqS (F : gw_F X l cc nL ret own Ts rm D cl tys NC ad A) {x y : Int32} {off : Int} {tgt : Nat} {a b : α × gw_S} (hd : decode cc pc = .ok (.if_icmp .eq off, 3)) (ht : (pc : Int) + off = (tgt : Int)) (kt : x = y → gw_V X Wd A nL rv S tgt lv rest a) (kf : ¬ x = y → gw_V X Wd A nL rv S (pc + 3) lv rest b) : gw_V X Wd A nL rv S pc lv (.int y :: .int x :: rest) (if x = y then a else b) := gw_icmp_eq F hd ht (fun h => gw_ans (if_pos h) (kt h)) (fun h => gw_ans (if_neg h) (kf h))
theorem gw_icmp_eqT (F : gw_F X l cc nL ret own Ts rm D cl tys NC ad A) {x y : Int32} {off : Int} {tgt : Nat} (hd : decode cc pc = .ok (.if_icmp .eq off, 3)) (ht : (pc : Int) + off = (tgt : Int)) (hc : x = y) (kt : gw_V X Wd A nL rv S tgt lv rest ans) : gw_V X Wd A nL rv S pc lv (.int y :: .int x :: rest) ans := gw_icmp_eq F hd ht (fun _ => kt) (fun h => absurd hc h)
theorem gw_icmp_eqN (F : gw_F X l cc nL ret own Ts rm D cl tys NC ad A) {x y : Int32} {off : Int} (tgt : Nat) (hd : decode cc pc = .ok (.if_icmp .eq off, 3)) (ht : (pc : Int) + off = (tgt : Int)) (hc : ¬ x = y) (kf : gw_V X Wd A nL rv S (pc + 3) lv rest ans) : gw_V X Wd A nL rv S pc lv (.int y :: .int x :: rest) ans := gw_icmp_eq F hd ht (fun h => absurd h hc) (fun _ => kf)
theorem gw_icmp_ne (F : gw_F X l cc nL ret own Ts rm D cl tys NC ad A) {x y : Int32} {off : Int} {tgt : Nat} (hd : decode cc pc = .ok (.if_icmp .ne off, 3)) (ht : (pc : Int) + off = (tgt : Int)) (kt : ¬ x = y → gw_V X Wd A nL rv S tgt lv rest ans) (kf : x = y → gw_V X Wd A nL rv S (pc + 3) lv rest ans) : gw_V X Wd A nL rv S pc lv (.int y :: .int x :: rest) ans := fun H locs ls hP hS hl => lv_icmp_ne F.1 F.2.1 hd ht (fun h => kt h H locs ls hP hS hl) (fun h => kf h H locs ls hP hS hl)
theorem gw_icmp_neS (F : gw_F X l cc nL ret own Ts rm D cl tys NC ad A) {x y : Int32} {off : Int} {tgt : Nat} {a b : α × gw_S} (hd : decode cc pc = .ok (.if_icmp .ne off, 3)) (ht : (pc : Int) + off = (tgt : Int)) (kt : ¬ x = y → gw_V X Wd A nL rv S tgt lv rest b) (kf : x = y → gw_V X Wd A nL rv S (pc + 3) lv rest a) : gw_V X Wd A nL rv S pc lv (.int y :: .int x :: rest) (if x = y then a else b) := gw_icmp_ne F hd ht (fun h => gw_ans (if_neg h) (kt h)) (fun h => gw_ans (if_pos h) (kf h))
theorem gw_icmp_neT (F : gw_F X l cc nL ret own Ts rm D cl tys NC ad A) {x y : Int32} {off : Int} {tgt : Nat} (hd : decode cc pc = .ok (.if_icmp .ne off, 3)) (ht : (pc : Int) + off = (tgt : Int)) (hc : ¬ x = y) (kt : gw_V X Wd A nL rv S tgt lv rest ans) : gw_V X Wd A nL rv S pc lv (.int y :: .int x :: rest) ans := gw_icmp_ne F hd ht (fun _ => kt) (fun h => absurd h hc)
theorem gw_icmp_neN (F : gw_F X l cc nL ret own Ts rm D cl tys NC ad A) {x y : Int32} {off : Int} (tgt : Nat) (hd : decode cc pc = .ok (.if_icmp .ne off, 3)) (ht : (pc : Int) + off = (tgt : Int)) (hc : x = y) (kf : gw_V X Wd A nL rv S (pc + 3) lv rest ans) : gw_V X Wd A nL rv S pc lv (.int y :: .int x :: rest) ans := gw_icmp_ne F hd ht (fun h => absurd hc h) (fun _ => kf)
theorem gw_icmp_lt (F : gw_F X l cc nL ret own Ts rm D cl tys NC ad A) {x y : Int32} {off : Int} {tgt : Nat} (hd : decode cc pc = .ok (.if_icmp .lt off, 3)) (ht : (pc : Int) + off = (tgt : Int)) (kt : x < y → gw_V X Wd A nL rv S tgt lv rest ans) (kf : ¬ x < y → gw_V X Wd A nL rv S (pc + 3) lv rest ans) : gw_V X Wd A nL rv S pc lv (.int y :: .int x :: rest) ans := fun H locs ls hP hS hl => lv_icmp_lt F.1 F.2.1 hd ht (fun h => kt h H locs ls hP hS hl) (fun h => kf h H locs ls hP hS hl)
theorem gw_icmp_ltS (F : gw_F X l cc nL ret own Ts rm D cl tys NC ad A) {x y : Int32} {off : Int} {tgt : Nat} {a b : α × gw_S} (hd : decode cc pc = .ok (.if_icmp .lt off, 3)) (ht : (pc : Int) + off = (tgt : Int)) (kt : x < y → gw_V X Wd A nL rv S tgt lv rest a) (kf : ¬ x < y → gw_V X Wd A nL rv S (pc + 3) lv rest b) : gw_V X Wd A nL rv S pc lv (.int y :: .int x :: rest) (if x < y then a else b) := gw_icmp_lt F hd ht (fun h => gw_ans (if_pos h) (kt h)) (fun h => gw_ans (if_neg h) (kf h))
theorem gw_icmp_ltT (F : gw_F X l cc nL ret own Ts rm D cl tys NC ad A) {x y : Int32} {off : Int} {tgt : Nat} (hd : decode cc pc = .ok (.if_icmp .lt off, 3)) (ht : (pc : Int) + off = (tgt : Int)) (hc : x < y) (kt : gw_V X Wd A nL rv S tgt lv rest ans) : gw_V X Wd A nL rv S pc lv (.int y :: .int x :: rest) ans := gw_icmp_lt F hd ht (fun _ => kt) (fun h => absurd hc h)
theorem gw_icmp_ltN (F : gw_F X l cc nL ret own Ts rm D cl tys NC ad A) {x y : Int32} {off : Int} (tgt : Nat) (hd : decode cc pc = .ok (.if_icmp .lt off, 3)) (ht : (pc : Int) + off = (tgt : Int)) (hc : ¬ x < y) (kf : gw_V X Wd A nL rv S (pc + 3) lv rest ans) : gw_V X Wd A nL rv S pc lv (.int y :: .int x :: rest) ans := gw_icmp_lt F hd ht (fun h => absurd h hc) (fun _ => kf)
theorem gw_icmp_ge (F : gw_F X l cc nL ret own Ts rm D cl tys NC ad A) {x y : Int32} {off : Int} {tgt : Nat} (hd : decode cc pc = .ok (.if_icmp .ge off, 3)) (ht : (pc : Int) + off = (tgt : Int)) (kt : y ≤ x → gw_V X Wd A nL rv S tgt lv rest ans) (kf : ¬ y ≤ x → gw_V X Wd A nL rv S (pc + 3) lv rest ans) : gw_V X Wd A nL rv S pc lv (.int y :: .int x :: rest) ans := fun H locs ls hP hS hl => lv_icmp_ge F.1 F.2.1 hd ht (fun h => kt h H locs ls hP hS hl) (fun h => kf h H locs ls hP hS hl)
theorem gw_icmp_geS (F : gw_F X l cc nL ret own Ts rm D cl tys NC ad A) {x y : Int32} {off : Int} {tgt : Nat} {a b : α × gw_S} (hd : decode cc pc = .ok (.if_icmp .ge off, 3)) (ht : (pc : Int) + off = (tgt : Int)) (kt : y ≤ x → gw_V X Wd A nL rv S tgt lv rest a) (kf : ¬ y ≤ x → gw_V X Wd A nL rv S (pc + 3) lv rest b) : gw_V X Wd A nL rv S pc lv (.int y :: .int x :: rest) (if y ≤ x then a else b) := gw_icmp_ge F hd ht (fun h => gw_ans (if_pos h) (kt h)) (fun h => gw_ans (if_neg h) (kf h))
theorem gw_icmp_geT (F : gw_F X l cc nL ret own Ts rm D cl tys NC ad A) {x y : Int32} {off : Int} {tgt : Nat} (hd : decode cc pc = .ok (.if_icmp .ge off, 3)) (ht : (pc : Int) + off = (tgt : Int)) (hc : y ≤ x) (kt : gw_V X Wd A nL rv S tgt lv rest ans) : gw_V X Wd A nL rv S pc lv (.int y :: .int x :: rest) ans := gw_icmp_ge F hd ht (fun _ => kt) (fun h => absurd hc h)
theorem gw_icmp_geN (F : gw_F X l cc nL ret own Ts rm D cl tys NC ad A) {x y : Int32} {off : Int} (tgt : Nat) (hd : decode cc pc = .ok (.if_icmp .ge off, 3)) (ht : (pc : Int) + off = (tgt : Int)) (hc : ¬ y ≤ x) (kf : gw_V X Wd A nL rv S (pc + 3) lv rest ans) : gw_V X Wd A nL rv S pc lv (.int y :: .int x :: rest) ans := gw_icmp_ge F hd ht (fun h => absurd h hc) (fun _ => kf)
theorem gw_icmp_gt (F : gw_F X l cc nL ret own Ts rm D cl tys NC ad A) {x y : Int32} {off : Int} {tgt : Nat} (hd : decode cc pc = .ok (.if_icmp .gt off, 3)) (ht : (pc : Int) + off = (tgt : Int)) (kt : y < x → gw_V X Wd A nL rv S tgt lv rest ans) (kf : ¬ y < x → gw_V X Wd A nL rv S (pc + 3) lv rest ans) : gw_V X Wd A nL rv S pc lv (.int y :: .int x :: rest) ans := fun H locs ls hP hS hl => lv_icmp_gt F.1 F.2.1 hd ht (fun h => kt h H locs ls hP hS hl) (fun h => kf h H locs ls hP hS hl)
theorem gw_icmp_gtS (F : gw_F X l cc nL ret own Ts rm D cl tys NC ad A) {x y : Int32} {off : Int} {tgt : Nat} {a b : α × gw_S} (hd : decode cc pc = .ok (.if_icmp .gt off, 3)) (ht : (pc : Int) + off = (tgt : Int)) (kt : y < x → gw_V X Wd A nL rv S tgt lv rest a) (kf : ¬ y < x → gw_V X Wd A nL rv S (pc + 3) lv rest b) : gw_V X Wd A nL rv S pc lv (.int y :: .int x :: rest) (if y < x then a else b) := gw_icmp_gt F hd ht (fun h => gw_ans (if_pos h) (kt h)) (fun h => gw_ans (if_neg h) (kf h))
theorem gw_icmp_gtT (F : gw_F X l cc nL ret own Ts rm D cl tys NC ad A) {x y : Int32} {off : Int} {tgt : Nat} (hd : decode cc pc = .ok (.if_icmp .gt off, 3)) (ht : (pc : Int) + off = (tgt : Int)) (hc : y < x) (kt : gw_V X Wd A nL rv S tgt lv rest ans) : gw_V X Wd A nL rv S pc lv (.int y :: .int x :: rest) ans := gw_icmp_gt F hd ht (fun _ => kt) (fun h => absurd hc h)
theorem gw_icmp_gtN (F : gw_F X l cc nL ret own Ts rm D cl tys NC ad A) {x y : Int32} {off : Int} (tgt : Nat) (hd : decode cc pc = .ok (.if_icmp .gt off, 3)) (ht : (pc : Int) + off = (tgt : Int)) (hc : ¬ y < x) (kf : gw_V X Wd A nL rv S (pc + 3) lv rest ans) : gw_V X Wd A nL rv S pc lv (.int y :: .int x :: rest) ans := gw_icmp_gt F hd ht (fun h => absurd h hc) (fun _ => kf)
theorem gw_icmp_le (F : gw_F X l cc nL ret own Ts rm D cl tys NC ad A) {x y : Int32} {off : Int} {tgt : Nat} (hd : decode cc pc = .ok (.if_icmp .le off, 3)) (ht : (pc : Int) + off = (tgt : Int)) (kt : x ≤ y → gw_V X Wd A nL rv S tgt lv rest ans) (kf : ¬ x ≤ y → gw_V X Wd A nL rv S (pc + 3) lv rest ans) : gw_V X Wd A nL rv S pc lv (.int y :: .int x :: rest) ans := fun H locs ls hP hS hl => lv_icmp_le F.1 F.2.1 hd ht (fun h => kt h H locs ls hP hS hl) (fun h => kf h H locs ls hP hS hl)
theorem gw_icmp_leS (F : gw_F X l cc nL ret own Ts rm D cl tys NC ad A) {x y : Int32} {off : Int} {tgt : Nat} {a b : α × gw_S} (hd : decode cc pc = .ok (.if_icmp .le off, 3)) (ht : (pc : Int) + off = (tgt : Int)) (kt : x ≤ y → gw_V X Wd A nL rv S tgt lv rest a) (kf : ¬ x ≤ y → gw_V X Wd A nL rv S (pc + 3) lv rest b) : gw_V X Wd A nL rv S pc lv (.int y :: .int x :: rest) (if x ≤ y then a else b) := gw_icmp_le F hd ht (fun h => gw_ans (if_pos h) (kt h)) (fun h => gw_ans (if_neg h) (kf h))
theorem gw_icmp_leT (F : gw_F X l cc nL ret own Ts rm D cl tys NC ad A) {x y : Int32} {off : Int} {tgt : Nat} (hd : decode cc pc = .ok (.if_icmp .le off, 3)) (ht : (pc : Int) + off = (tgt : Int)) (hc : x ≤ y) (kt : gw_V X Wd A nL rv S tgt lv rest ans) : gw_V X Wd A nL rv S pc lv (.int y :: .int x :: rest) ans := gw_icmp_le F hd ht (fun _ => kt) (fun h => absurd hc h)
theorem gw_icmp_leN (F : gw_F X l cc nL ret own Ts rm D cl tys NC ad A) {x y : Int32} {off : Int} (tgt : Nat) (hd : decode cc pc = .ok (.if_icmp .le off, 3)) (ht : (pc : Int) + off = (tgt : Int)) (hc : ¬ x ≤ y) (kf : gw_V X Wd A nL rv S (pc + 3) lv rest ans) : gw_V X Wd A nL rv S pc lv (.int y :: .int x :: rest) ans := gw_icmp_le F hd ht (fun h => absurd h hc) (fun _ => kf)
theorem gw_goto (F : gw_F X l cc nL ret own Ts rm D cl tys NC ad A) {off : Int} {tgt : Nat} (hd : decode cc pc = .ok (.goto off, 3)) (ht : (pc : Int) + off = (tgt : Int)) (k : gw_V X Wd A nL rv S tgt lv rest ans) : gw_V X Wd A nL rv S pc lv rest ans := fun H locs ls hP hS hl => lv_goto F.1 F.2.1 hd ht (k H locs ls hP hS hl)
theorem gw_ifnull (F : gw_F X l cc nL ret own Ts rm D cl tys NC ad A) {x : Nat} {off : Int} (hd : decode cc pc = .ok (.ifnull off, 3)) (k : gw_V X Wd A nL rv S (pc + 3) lv rest ans) : gw_V X Wd A nL rv S pc lv (.ref x :: rest) ans := fun H locs ls hP hS hl => lv_ifnull F.1 F.2.1 hd (k H locs ls hP hS hl)
theorem gw_ifnullN (F : gw_F X l cc nL ret own Ts rm D cl tys NC ad A) {off : Int} {tgt : Nat} (hd : decode cc pc = .ok (.ifnull off, 3)) (ht : (pc : Int) + off = (tgt : Int)) (k : gw_V X Wd A nL rv S tgt lv rest ans) : gw_V X Wd A nL rv S pc lv (.null :: rest) ans := fun H locs ls hP hS hl => lv_ifnullN F.1 F.2.1 hd ht (k H locs ls hP hS hl)
theorem gw_tableOut (F : gw_F X l cc nL ret own Ts rm D cl tys NC ad A) {dflt lo hi : Int} {offs : Array Int} {len : Nat} {x : Int32} {tgt : Nat} (hd : decode cc pc = .ok (.tableswitch dflt lo hi offs, len)) (h : x.toInt < lo ∨ hi < x.toInt) (ht : (pc : Int) + dflt = (tgt : Int)) (k : gw_V X Wd A nL rv S tgt lv rest ans) : gw_V X Wd A nL rv S pc lv (.int x :: rest) ans := fun H locs ls hP hS hl => lv_tableOut F.1 F.2.1 hd h ht (k H locs ls hP hS hl)
theorem gw_tableIn (F : gw_F X l cc nL ret own Ts rm D cl tys NC ad A) {dflt lo hi : Int} {offs : Array Int} {len : Nat} {x y : Int32} {off : Int} {tgt : Nat} (hd : decode cc pc = .ok (.tableswitch dflt lo hi offs, len)) (hx : x = y) (h1 : ¬ y.toInt < lo) (h2 : ¬ hi < y.toInt) (ho : offs[(y.toInt - lo).toNat]? = some off) (ht : (pc : Int) + off = (tgt : Int)) (k : gw_V X Wd A nL rv S tgt lv rest ans) : gw_V X Wd A nL rv S pc lv (.int x :: rest) ans := fun H locs ls hP hS hl => lv_tableIn F.1 F.2.1 hd (hx ▸ h1) (hx ▸ h2) (hx ▸ ho) ht (k H locs ls hP hS hl)
theorem gw_ne {x y : Int32} (h : ¬ x = y) : ¬ x.toInt = y.toInt := fun q => h (Int32.toInt_inj.mp q)
theorem gw_ldc (F : gw_F X l cc nL ret own Ts rm D cl tys NC ad A) {index : Nat} {v : Int32} (hc : Cond.constant own index v ∈ Ts) (hd : decode cc pc = .ok (.ldc index, 2)) (k : gw_V X Wd A nL rv S (pc + 2) lv (.int v :: rest) ans) : gw_V X Wd A nL rv S pc lv rest ans := fun H locs ls hP hS hl => lv_ldc F.1 F.2.1 F.2.2.2.1 (F.2.2.2.2.1 _ hc) hd (k H locs ls hP hS hl)
theorem gw_ldc2 (F : gw_F X l cc nL ret own Ts rm D cl tys NC ad A) {index : Nat} {v : Int64} (hc : Cond.constantLong own index v ∈ Ts) (hd : decode cc pc = .ok (.ldc2_w index, 3)) (k : gw_V X Wd A nL rv S (pc + 3) lv (.long v :: rest) ans) : gw_V X Wd A nL rv S pc lv rest ans := fun H locs ls hP hS hl => lv_ldc2 F.1 F.2.1 F.2.2.2.1 (F.2.2.2.2.1 _ hc) hd (k H locs ls hP hS hl)
theorem gw_iret (F : gw_F X l cc nL (some .int) own Ts rm D cl tys NC ad A) {x : Int32} (hd : decode cc pc = .ok (.ireturn, 1)) : gw_V X Wd A nL gw_rI S pc lv [.int x] (x, S) := fun H locs ls hP hS hl =>
  W.iret F.1 F.2.1 F.2.2.2.2.2.2.1 (fun t ht _ => ⟨⟨rfl, by rw [ht]; exact hP⟩, hS.F ht⟩) hS.2.2 hd F.2.2.2.2.2.2.2.1
theorem gw_zret {ty : FieldType} (F : gw_F X l cc nL (some ty) own Ts rm D cl tys NC ad A) {x : Int32} (hd : decode cc pc = .ok (.ireturn, 1)) (hn : narrow ty (.int x) = .int x) : gw_V X Wd A nL gw_rI S pc lv [.int x] (x, S) := fun H locs ls hP hS hl =>
  W.zret F.1 F.2.1 F.2.2.2.2.2.2.1 hn (fun t ht _ => ⟨⟨rfl, by rw [ht]; exact hP⟩, hS.F ht⟩) hS.2.2 hd F.2.2.2.2.2.2.2.1
theorem gw_lret (F : gw_F X l cc nL (some .long) own Ts rm D cl tys NC ad A) {x : Int64} (hd : decode cc pc = .ok (.lreturn, 1)) : gw_V X Wd A nL gw_rJ S pc lv [.long x] (x, S) := fun H locs ls hP hS hl =>
  W.lret F.1 F.2.1 F.2.2.2.2.2.2.1 (fun t ht _ => ⟨⟨rfl, by rw [ht]; exact hP⟩, hS.F ht⟩) hS.2.2 hd F.2.2.2.2.2.2.2.1
theorem gw_vret (F : gw_F X l cc nL (none) own Ts rm D cl tys NC ad A) (hd : decode cc pc = .ok (.return_, 1)) : gw_V X Wd A nL gw_rV S pc lv [] ((), S) := fun H locs ls hP hS hl =>
  W.vret F.1 F.2.1 F.2.2.2.2.2.2.1 (fun t ht _ => ⟨⟨rfl, by rw [ht]; exact hP⟩, hS.F ht⟩) hS.2.2 hd F.2.2.2.2.2.2.2.1
theorem gw_aret {rt : FieldType} (F : gw_F X l cc nL (some rt) own Ts rm D cl tys NC ad A) {x : Nat} (hrt : (∃ n, rt = .object n) ∨ ∃ t, rt = .array t) (hd : decode cc pc = .ok (.areturn, 1)) : gw_V X Wd A nL (gw_rA ad) S pc lv [.ref (ad x)] (some x, S) := fun H locs ls hP hS hl =>
  W.aret F.1 F.2.1 F.2.2.2.2.2.2.1 hrt (Or.inr ⟨_, rfl⟩) (fun t ht _ => ⟨⟨rfl, by rw [ht]; exact hP⟩, hS.F ht⟩) hS.2.2 hd F.2.2.2.2.2.2.2.1
theorem gw_aretN {rt : FieldType} (F : gw_F X l cc nL (some rt) own Ts rm D cl tys NC ad A) (hrt : (∃ n, rt = .object n) ∨ ∃ t, rt = .array t) (hd : decode cc pc = .ok (.areturn, 1)) : gw_V X Wd A nL (gw_rA ad) S pc lv [.null] (none, S) := fun H locs ls hP hS hl =>
  W.aret F.1 F.2.1 F.2.2.2.2.2.2.1 hrt (Or.inl rfl) (fun t ht _ => ⟨⟨rfl, by rw [ht]; exact hP⟩, hS.F ht⟩) hS.2.2 hd F.2.2.2.2.2.2.2.1
end GW
section GX
variable {α : Type} {X : gx_M} {l : Launch} {cc : ByteArray} {nL : Nat} {ret : Option FieldType} {own : String} {Ts : List Cond} {rm : Room} {D : va_G} {cl : List vw_C} {tys : List (ClassId × FieldType)} {NC : Nat} {ad : Nat → Nat} {A : Nat → Prop} {E : Nat → (Nat → Int32) → va_E} {rv : α → Option Value} {S : gw_S} {pc : Nat} {lv : List (Nat × Value)} {rest : List Value} {ans : α × gw_S}
theorem gw_FD (F : gw_F X l cc nL ret own Ts rm D cl tys NC ad A) : va_D A (gw_W NC ad E S) := gw_D F.2.2.2.2.2.2.2.2.2.2.1 (fun i hi => by rw [F.2.2.2.2.2.2.2.2.2.2.2]; exact Or.inl ⟨i, hi, rfl⟩)
theorem gw_get (F : gw_F X l cc nL ret own Ts rm D cl tys NC ad A) {ref C : String} {T : u_T} {N ci index : Nat} (hin : ∀ w ∈ u_ws C T N, w ∈ Ts) (i : Nat) (hi : i < NC) {fs : List Value} (he : E i (S i) = .inr (ci, fs)) (hc : cl[ci]? = some (C, T, N)) (k : Nat) (hk : k < N) (hlink : Cond.fieldLink own index ref (T k).2.1 (T k).2.2.1 ∈ Ts) (hsame : (T k).1 = ref) {v : Value} (hv : fs[k]? = some v) (hd : decode cc pc = .ok (.getfield index, 3)) (kk : gw_V X (gw_P D cl NC ad E) A nL rv S (pc + 3) lv (v :: rest) ans) : gw_V X (gw_P D cl NC ad E) A nL rv S pc lv (.ref (ad i) :: rest) ans := fun H locs ls hP hS hl =>
  va_get F.1 F.2.1 F.2.2.2.2.1 hin F.2.2.2.1 F.2.2.2.2.2.2.2.2.2.1 hP i ((gw_get0 hi).trans (by rw [he])) hc k hk (F.2.2.2.2.1 _ hlink) (fun x hx => by rw [← hsame]; exact hx) hv hd (kk H locs ls hP hS hl)
theorem gw_getN (F : gw_F X l cc nL ret own Ts rm D cl tys NC ad A) {ref C : String} {host : String} {T : u_T} {N ci index : Nat} (hin : ∀ w ∈ u_ws C T N, w ∈ Ts) (i : Nat) (hi : i < NC) {fs : List Value} (he : E i (S i) = .inr (ci, fs)) (hc : cl[ci]? = some (C, T, N)) (k : Nat) (hk : k < N) (hlink : Cond.fieldLinkNest own index ref (T k).2.1 (T k).2.2.1 host ∈ Ts) (hsame : (T k).1 = ref) {v : Value} (hv : fs[k]? = some v) (hd : decode cc pc = .ok (.getfield index, 3)) (kk : gw_V X (gw_P D cl NC ad E) A nL rv S (pc + 3) lv (v :: rest) ans) : gw_V X (gw_P D cl NC ad E) A nL rv S pc lv (.ref (ad i) :: rest) ans := fun H locs ls hP hS hl =>
  va_getN F.1 F.2.1 F.2.2.2.2.1 hin F.2.2.2.1 F.2.2.2.2.2.2.2.2.2.1 hP i ((gw_get0 hi).trans (by rw [he])) hc k hk (F.2.2.2.2.1 _ hlink) (fun x hx => by rw [← hsame]; exact hx) hv hd (kk H locs ls hP hS hl)
theorem gw_put (F : gw_F X l cc nL ret own Ts rm D cl tys NC ad A) {ref C : String} {T : u_T} {N ci index : Nat} (hin : ∀ w ∈ u_ws C T N, w ∈ Ts) (ty0 : Nat → FieldType) (hty : ∀ k, k < N → parseFieldDescriptor (T k).2.2.1 = some (ty0 k)) (hnm : ∀ a, a < N → ∀ b, b < N → a ≠ b → (T a).2.1 ≠ (T b).2.1) (i : Nat) (hi : i < NC) {fs : List Value} (he : E i (S i) = .inr (ci, fs)) (hc : cl[ci]? = some (C, T, N)) (k : Nat) (hk : k < N) (hlink : Cond.fieldLink own index ref (T k).2.1 (T k).2.2.1 ∈ Ts) (hsame : (T k).1 = ref) (hfin : (T k).2.2.2 = false) {ty : FieldType} {x : Int32} (hdt : parseFieldDescriptor (T k).2.2.1 = some ty) (hn : narrow ty (.int x) = .int x) (hfit : fits ty (.int x) = true) (hl : k < fs.length) (hE : E i (upd (S i) k x) = .inr (ci, fs.set k (.int x))) (hd : decode cc pc = .ok (.putfield index, 3)) (kk : gw_V X (gw_P D cl NC ad E) A nL rv (gw_u S i k x) (pc + 3) lv rest ans) : gw_V X (gw_P D cl NC ad E) A nL rv S pc lv (.int x :: .ref (ad i) :: rest) ans := fun H locs ls hP hS hl0 =>
  va_put F.1 F.2.1 F.2.2.2.2.1 hin ty0 hty hnm F.2.2.2.1 F.2.2.2.2.2.2.2.2.2.1 hP (gw_FD F) hS i ((gw_get0 hi).trans (by rw [he])) hc k hk (F.2.2.2.2.1 _ hlink) (fun x hx => by rw [← hsame]; exact hx) hfin hdt hn hfit hl hd (fun H1 locs1 hP1 _ hS1 => kk H1 locs1 ls (by rw [← hE, gw_set hi] at hP1; exact hP1) hS1 hl0)
theorem gw_putN (F : gw_F X l cc nL ret own Ts rm D cl tys NC ad A) {ref C : String} {host : String} {T : u_T} {N ci index : Nat} (hin : ∀ w ∈ u_ws C T N, w ∈ Ts) (ty0 : Nat → FieldType) (hty : ∀ k, k < N → parseFieldDescriptor (T k).2.2.1 = some (ty0 k)) (hnm : ∀ a, a < N → ∀ b, b < N → a ≠ b → (T a).2.1 ≠ (T b).2.1) (i : Nat) (hi : i < NC) {fs : List Value} (he : E i (S i) = .inr (ci, fs)) (hc : cl[ci]? = some (C, T, N)) (k : Nat) (hk : k < N) (hlink : Cond.fieldLinkNest own index ref (T k).2.1 (T k).2.2.1 host ∈ Ts) (hsame : (T k).1 = ref) (hfin : (T k).2.2.2 = false) {ty : FieldType} {x : Int32} (hdt : parseFieldDescriptor (T k).2.2.1 = some ty) (hn : narrow ty (.int x) = .int x) (hfit : fits ty (.int x) = true) (hl : k < fs.length) (hE : E i (upd (S i) k x) = .inr (ci, fs.set k (.int x))) (hd : decode cc pc = .ok (.putfield index, 3)) (kk : gw_V X (gw_P D cl NC ad E) A nL rv (gw_u S i k x) (pc + 3) lv rest ans) : gw_V X (gw_P D cl NC ad E) A nL rv S pc lv (.int x :: .ref (ad i) :: rest) ans := fun H locs ls hP hS hl0 =>
  va_putN F.1 F.2.1 F.2.2.2.2.1 hin ty0 hty hnm F.2.2.2.1 F.2.2.2.2.2.2.2.2.2.1 hP (gw_FD F) hS i ((gw_get0 hi).trans (by rw [he])) hc k hk (F.2.2.2.2.1 _ hlink) (fun x hx => by rw [← hsame]; exact hx) hfin hdt hn hfit hl hd (fun H1 locs1 hP1 _ hS1 => kk H1 locs1 ls (by rw [← hE, gw_set hi] at hP1; exact hP1) hS1 hl0)
theorem gw_iald (F : gw_F X l cc nL ret own Ts rm D cl tys NC ad A) (i t0 : Nat) (hi : i < NC) {cA : ClassId} {n : Nat} {f : Nat → Int32} (he : E i (S i) = .inl (cA, n, .inl f)) (ht : tys[t0]? = some (cA, .int)) {j : Int32} (hin : vp_in j n) (hd : decode cc pc = .ok (.iaload, 1)) (kk : gw_V X (gw_P D cl NC ad E) A nL rv S (pc + 1) lv (.int (f j.toNatClampNeg) :: rest) ans) : gw_V X (gw_P D cl NC ad E) A nL rv S pc lv (.int j :: .ref (ad i) :: rest) ans := fun H locs ls hP hS hl =>
  va_iald F.1 F.2.1 F.2.2.2.2.2.2.2.2.2.1 hP i t0 ((gw_get0 hi).trans (by rw [he])) ht hin hd (kk H locs ls hP hS hl)
theorem gw_iast (F : gw_F X l cc nL ret own Ts rm D cl tys NC ad A) (i t0 : Nat) (hi : i < NC) {cA : ClassId} {n : Nat} {f : Nat → Int32} (he : E i (S i) = .inl (cA, n, .inl f)) (ht : tys[t0]? = some (cA, .int)) {j x : Int32} (hin : vp_in j n) (hE : E i (upd (S i) j.toNatClampNeg x) = .inl (cA, n, .inl (upd f j.toNatClampNeg x))) (hd : decode cc pc = .ok (.iastore, 1)) (kk : gw_V X (gw_P D cl NC ad E) A nL rv (gw_u S i j.toNatClampNeg x) (pc + 1) lv rest ans) : gw_V X (gw_P D cl NC ad E) A nL rv S pc lv (.int x :: .int j :: .ref (ad i) :: rest) ans := fun H locs ls hP hS hl =>
  va_iast F.1 F.2.1 F.2.2.2.2.2.2.2.2.2.1 hP (gw_FD F) hS i t0 ((gw_get0 hi).trans (by rw [he])) ht hin hd (fun H1 locs1 hP1 _ hS1 => kk H1 locs1 ls (by rw [← hE, gw_set hi] at hP1; exact hP1) hS1 hl)
theorem gw_bald (F : gw_F X l cc nL ret own Ts rm D cl tys NC ad A) (i t0 : Nat) (hi : i < NC) {cA : ClassId} {n : Nat} {f : Nat → Int32} (he : E i (S i) = .inl (cA, n, .inl f)) (ht : tys[t0]? = some (cA, .byte)) {j : Int32} (hin : vp_in j n) (hd : decode cc pc = .ok (.baload, 1)) (kk : gw_V X (gw_P D cl NC ad E) A nL rv S (pc + 1) lv (.int (f j.toNatClampNeg) :: rest) ans) : gw_V X (gw_P D cl NC ad E) A nL rv S pc lv (.int j :: .ref (ad i) :: rest) ans := fun H locs ls hP hS hl =>
  va_bald F.1 F.2.1 F.2.2.2.2.2.2.2.2.2.1 hP i t0 ((gw_get0 hi).trans (by rw [he])) ht hin hd (kk H locs ls hP hS hl)
theorem gw_bast (F : gw_F X l cc nL ret own Ts rm D cl tys NC ad A) (i t0 : Nat) (hi : i < NC) {cA : ClassId} {n : Nat} {f : Nat → Int32} (he : E i (S i) = .inl (cA, n, .inl f)) (ht : tys[t0]? = some (cA, .byte)) {j x : Int32} (hin : vp_in j n) (hE : E i (upd (S i) j.toNatClampNeg (vp_nar .byte x)) = .inl (cA, n, .inl (upd f j.toNatClampNeg (vp_nar .byte x)))) (hd : decode cc pc = .ok (.bastore, 1)) (kk : gw_V X (gw_P D cl NC ad E) A nL rv (gw_u S i j.toNatClampNeg (vp_nar .byte x)) (pc + 1) lv rest ans) : gw_V X (gw_P D cl NC ad E) A nL rv S pc lv (.int x :: .int j :: .ref (ad i) :: rest) ans := fun H locs ls hP hS hl =>
  va_bast F.1 F.2.1 F.2.2.2.2.2.2.2.2.2.1 hP (gw_FD F) hS i t0 ((gw_get0 hi).trans (by rw [he])) ht hin hd (fun H1 locs1 hP1 _ hS1 => kk H1 locs1 ls (by rw [← hE, gw_set hi] at hP1; exact hP1) hS1 hl)
theorem gw_zald (F : gw_F X l cc nL ret own Ts rm D cl tys NC ad A) (i t0 : Nat) (hi : i < NC) {cA : ClassId} {n : Nat} {f : Nat → Int32} (he : E i (S i) = .inl (cA, n, .inl f)) (ht : tys[t0]? = some (cA, .boolean)) {j : Int32} (hin : vp_in j n) (hd : decode cc pc = .ok (.baload, 1)) (kk : gw_V X (gw_P D cl NC ad E) A nL rv S (pc + 1) lv (.int (f j.toNatClampNeg) :: rest) ans) : gw_V X (gw_P D cl NC ad E) A nL rv S pc lv (.int j :: .ref (ad i) :: rest) ans := fun H locs ls hP hS hl =>
  va_zald F.1 F.2.1 F.2.2.2.2.2.2.2.2.2.1 hP i t0 ((gw_get0 hi).trans (by rw [he])) ht hin hd (kk H locs ls hP hS hl)
theorem gw_zast (F : gw_F X l cc nL ret own Ts rm D cl tys NC ad A) (i t0 : Nat) (hi : i < NC) {cA : ClassId} {n : Nat} {f : Nat → Int32} (he : E i (S i) = .inl (cA, n, .inl f)) (ht : tys[t0]? = some (cA, .boolean)) {j x : Int32} (hin : vp_in j n) (hE : E i (upd (S i) j.toNatClampNeg (vp_nar .boolean x)) = .inl (cA, n, .inl (upd f j.toNatClampNeg (vp_nar .boolean x)))) (hd : decode cc pc = .ok (.bastore, 1)) (kk : gw_V X (gw_P D cl NC ad E) A nL rv (gw_u S i j.toNatClampNeg (vp_nar .boolean x)) (pc + 1) lv rest ans) : gw_V X (gw_P D cl NC ad E) A nL rv S pc lv (.int x :: .int j :: .ref (ad i) :: rest) ans := fun H locs ls hP hS hl =>
  va_zast F.1 F.2.1 F.2.2.2.2.2.2.2.2.2.1 hP (gw_FD F) hS i t0 ((gw_get0 hi).trans (by rw [he])) ht hin hd (fun H1 locs1 hP1 _ hS1 => kk H1 locs1 ls (by rw [← hE, gw_set hi] at hP1; exact hP1) hS1 hl)
theorem gw_aald (F : gw_F X l cc nL ret own Ts rm D cl tys NC ad A) (i t0 : Nat) (hi : i < NC) {cA : ClassId} {C : String} {n : Nat} {f : Nat → Option Nat} (he : E i (S i) = .inl (cA, n, .inr (.inr (.inr (.inr f))))) (ht : tys[t0]? = some (cA, .object C)) {j : Int32} {a : Nat} (hin : vp_in j n) (ha : f j.toNatClampNeg = some a) (hd : decode cc pc = .ok (.aaload, 1)) (kk : gw_V X (gw_P D cl NC ad E) A nL rv S (pc + 1) lv (.ref a :: rest) ans) : gw_V X (gw_P D cl NC ad E) A nL rv S pc lv (.int j :: .ref (ad i) :: rest) ans := fun H locs ls hP hS hl =>
  va_aldq F.1 F.2.1 F.2.2.2.2.2.2.2.2.2.1 hP i t0 ((gw_get0 hi).trans (by rw [he])) ht hin hd (by rw [ha]; exact kk H locs ls hP hS hl)
theorem gw_alen (F : gw_F X l cc nL ret own Ts rm D cl tys NC ad A) (i t0 : Nat) (hi : i < NC) {cA : ClassId} {x : vp_A} {ty : FieldType} (he : E i (S i) = .inl (cA, x)) (ht : tys[t0]? = some (cA, ty)) {v : Int32} (hv : Int32.ofNat x.1 = v) (hd : decode cc pc = .ok (.arraylength, 1)) (kk : gw_V X (gw_P D cl NC ad E) A nL rv S (pc + 1) lv (.int v :: rest) ans) : gw_V X (gw_P D cl NC ad E) A nL rv S pc lv (.ref (ad i) :: rest) ans := fun H locs ls hP hS hl =>
  va_alen F.1 F.2.1 F.2.2.2.2.2.2.2.2.2.1 hP i t0 ((gw_get0 hi).trans (by rw [he])) ht hv hd (kk H locs ls hP hS hl)
theorem gw_copy (F : gw_F X l cc nL ret own Ts rm D cl tys NC ad A) (i t0 : Nat) (hi : i < NC) {cA : ClassId} {n index : Nat} {f : Nat → Int32} (he : E i (S i) = .inl (cA, n, .inl f)) {ty : FieldType} (ht : tys[t0]? = some (cA, ty)) (hprim : refKind ty = false) {sp dp m : Int32} (h1 : ¬ sp < 0) (h2 : ¬ dp < 0) (h3 : ¬ m < 0) (h4 : sp.toNatClampNeg + m.toNatClampNeg ≤ n) (h5 : dp.toNatClampNeg + m.toNatClampNeg ≤ n) (hfit : ∀ q, q < m.toNatClampNeg → fits ty (.int (f (sp.toNatClampNeg + q))) = true) (hl : Cond.methodLink own index arraycopyName ∈ Ts) (hnat : Cond.native arraycopyName ∈ Ts) (hst : Cond.static arraycopyName ∈ Ts) (hini : Cond.initialized "java/lang/System" ∈ Ts) (hf : 1 ≤ rm.frames) (hlo : (rest.map fun v => v.category).sum + (nativeFrameWords "java/lang/System" "arraycopy" 5 + 11) ≤ rm.locals) (hE : E i (va_cpy f f sp.toNatClampNeg dp.toNatClampNeg m.toNatClampNeg) = .inl (cA, n, .inl (va_cpy f f sp.toNatClampNeg dp.toNatClampNeg m.toNatClampNeg))) (hd : decode cc pc = .ok (.invokestatic index, 3)) (kk : gw_V X (gw_P D cl NC ad E) A nL rv (gw_a S i (va_cpy f f sp.toNatClampNeg dp.toNatClampNeg m.toNatClampNeg)) (pc + 3) lv rest ans) : gw_V X (gw_P D cl NC ad E) A nL rv S pc lv (.int m :: .int dp :: .ref (ad i) :: .int sp :: .ref (ad i) :: rest) ans := fun H locs ls hP hS hlv =>
  va_copyi F.1 F.2.1 (F.2.2.1.trans hlv.1.symm) F.2.2.2.1 (F.2.2.2.2.1 _ hl) (F.2.2.2.2.1 _ hnat) (F.2.2.2.2.1 _ hst) (F.2.2.2.2.1 _ hini) F.2.2.2.2.2.2.2.2.2.1 hP (gw_FD F) hS i i t0 t0 ((gw_get0 hi).trans (by rw [he])) ((gw_get0 hi).trans (by rw [he])) ht ht hprim h1 h2 h3 h4 h5 hfit (by rw [F.2.2.2.2.2.1]; exact hf) (by rw [F.2.2.2.2.2.1]; exact hlo) hd (fun H1 locs1 hP1 _ hS1 => kk H1 locs1 ls (by rw [← hE, gw_set hi] at hP1; exact hP1) hS1 hlv)
end GX
section GC
variable {α β : Type} {X : gx_M} {l : Launch} {cc : ByteArray} {nL : Nat} {ret : Option FieldType} {own : String} {Ts : List Cond} {rm : Room} {D : va_G} {cl : List vw_C} {tys : List (ClassId × FieldType)} {NC : Nat} {ad : Nat → Nat} {A : Nat → Prop} {E : Nat → (Nat → Int32) → va_E} {rv : α → Option Value} {rw' : β → Option Value} {S : gw_S} {pc : Nat} {lv : List (Nat × Value)} {rest st0 : List Value} {ans : α × gw_S} {a : β × gw_S}
theorem gw_ran (F : gw_F X l cc nL ret own Ts rm D cl tys NC ad A) {av : Array Value} (hr : ∀ (H : Heap) (locs : List Loc) (ls : Array Slot), gw_P D cl NC ad E S H → lv_has ls nL lv → va_Run X.1 X.2.1 X.2.2.1 X.2.2.2.1 X.2.2.2.2.1 X.2.2.2.2.2.1 X.2.2.2.2.2.2.1 X.2.2.2.2.2.2.2.1 X.2.2.2.2.2.2.2.2.1 X.2.2.2.2.2.2.2.2.2 H locs 0 0 0 0 (F0 X.2.2.2.2.2.1 pc ls st0) rest (gw_Q rw' (gw_P D cl NC ad E) (gw_A NC ad H.size) a av) (gw_A NC ad H.size))
    (kk : gw_V X (gw_P D cl NC ad E) A nL rv a.2 (pc + 3) lv ((rw' a.1).toList ++ rest) ans) : gw_V X (gw_P D cl NC ad E) A nL rv S pc lv st0 ans := by
  intro H locs ls hP hS hl T hT hX
  obtain ⟨v, st, t, T', L, h0, hX', hL, hT', hvm, ⟨⟨hoc, hW⟩, hF⟩, hgo⟩ := hr H locs ls hP hl T hT hX
  have hA := F.2.2.2.2.2.2.2.2.2.2.2
  have hsub : ∀ q, gw_A NC ad H.size q → A q := by
    intro q hq
    rw [hA]
    rcases hq with h | h
    · exact Or.inl h
    · exact Or.inr (Nat.le_trans hS.1 h)
  have hv : v = rw' a.1 := by injection hoc
  subst hv
  have hS' : va_S A X.2.2.2.2.1.heap t.heap (locs ++ L) := by
    refine ⟨?_, ?_, ?_⟩
    · have h1 := hF.1
      rw [h0] at h1
      exact Nat.le_trans hS.1 h1
    · intro q hq hn
      have h1 := hF.2 q (by rw [h0]; exact Nat.lt_of_lt_of_le hq hS.1) (fun h => hn (hsub q h))
      rw [h1, h0]
      exact hS.2.1 q hq hn
    · intro x hx
      rcases List.mem_append.mp hx with h | h
      · exact hS.2.2 x h
      · exact hsub _ (hL x h)
  obtain ⟨u, hu, hq⟩ := kk t.heap (locs ++ L) ls hW hS' hl T' hT' hX'
  exact ⟨u, hgo u hu, hq⟩
theorem gw_pre {av : List Value} (F : gw_F X l cc nL ret own Ts rm D cl tys NC ad A) {H : Heap} (hP : gw_P D cl NC ad E S H) : PreS X.2.2.2.2.1 H (gw_Pc Ts D cl tys (gw_P D cl NC ad E) H.size S av) av :=
  ⟨fun a U g mk q => ⟨q.1, q.2.1, q.2.2.1, va_K.moved (u := U) (U := U.calling g mk a) (Vm.Alike.refl U.vm) q.2.2.2.1, fun w hw hn => va_Nw.same (u := U) (U := U.calling g mk a) (gw_isN_tab hn) rfl (q.2.2.2.2 w hw hn)⟩, fun U hU hW => ⟨rfl, by rw [hU], by rw [hU]; exact hP, va_K.moved hW.alike F.2.2.2.2.2.2.2.2.2.1, fun w hw hn => gw_isN_warm hn hW (va_Nw.of (gw_isN_tab hn) (F.2.2.2.2.1 w hw))⟩⟩
theorem gw_preV {As : List Value} (F : gw_F X l cc nL ret own Ts rm D cl tys NC ad A) {H : Heap} (hP : gw_P D cl NC ad E S H) {i ci : Nat} {r : vw_C} {fs : List Value} (hi : i < NC) (he : E i (S i) = .inr (ci, fs)) (hc : cl[ci]? = some r) : PreV X.2.2.2.2.1 H r.1 (ad i) (gw_Pc Ts D cl tys (gw_P D cl NC ad E) H.size S (.ref (ad i) :: As)) As :=
  ⟨(gw_pre (av := .ref (ad i) :: As) F hP).1, va_recv F.2.2.2.2.2.2.2.2.2.1 hP hc ((gw_get0 hi).trans (by rw [he])), (gw_pre (av := .ref (ad i) :: As) F hP).2⟩
def gw_cw (Tb : List Cond) (y : MethodName) (bytes : ByteArray) (maxL : Nat) (rt : Option FieldType) (n : Nat) : Prop := Cond.code y bytes maxL rt ∈ Tb ∧ Cond.initialized y.cls ∈ Tb ∧ y.cls ≠ "java/lang/invoke/MethodHandle" ∧ y.cls ≠ "java/lang/invoke/VarHandle" ∧ (parseMethodDescriptor y.desc).map (fun d => d.parameters.length) = some n
def gw_cv (Tb : List Cond) (y : MethodName) : Prop := Cond.instanceMethod y ∈ Tb ∧ Cond.selects y.cls y y ∈ Tb
theorem gw_gI {Tb : List Cond} {y : MethodName} {bytes : ByteArray} {maxL : Nat} {rt : Option FieldType} (hw : Cond.code y bytes maxL rt ∈ Tb) : GoodIn Tb (Cond.code y bytes maxL rt :: Tb.filter goodWord) := by
  intro x hx
  rcases List.mem_cons.mp hx with rfl | h
  · exact ⟨hw, Or.inl rfl⟩
  · exact ⟨(List.mem_filter.mp h).1, good_of_word (List.mem_filter.mp h).2⟩
theorem gw_hR {d' d maxL : Nat} (h1 : d' < d) (h2 : maxL ≤ 21) : (gw_rm d').frames + 1 ≤ (gw_rm d).frames ∧ 8 + (maxL + 11) + (gw_rm d').locals ≤ (gw_rm d).locals := by
  show d' + 1 ≤ d ∧ 8 + (maxL + 11) + 40 * d' ≤ 40 * d
  omega
theorem gw_cV (F : gw_F X l cc nL ret own Ts rm D cl tys NC ad A) {y : MethodName} {bytes : ByteArray} {maxL n index d' d : Nat} {rt : Option FieldType} {As : List Value} {i ci : Nat} {r : vw_C} {fs : List Value} (hM : gw_M l y bytes maxL rt Ts (gw_rm d') D cl tys NC ad E rw' (.ref (ad i) :: As) S a) (hw : gw_cw Ts y bytes maxL rt n) (hv : gw_cv Ts y) (hl : Cond.methodLink own index y ∈ Ts) (hrm : rm = gw_rm d) (hd1 : d' < d) (hd2 : maxL ≤ 21) (hi : i < NC) (he : E i (S i) = .inr (ci, fs)) (hcl : cl[ci]? = some r) (hC : y.cls = r.1) (hn : As.length = n) (hst : st0 = As.reverse ++ .ref (ad i) :: rest) (hroom : (rest.map fun v => v.category).sum ≤ 8) (hd : decode cc pc = .ok (.invokevirtual index, 3))
    (kk : gw_V X (gw_P D cl NC ad E) A nL rv a.2 (pc + 3) lv ((rw' a.1).toList ++ rest) ans) : gw_V X (gw_P D cl NC ad E) A nL rv S pc lv st0 ans := by
  have F0 := F
  obtain ⟨p, l1, e, R, s, m, args, below, meth, c⟩ := X
  obtain ⟨hx, hb, hml, hown, hts, hR0, hret, hlk, hl0, hK, hJ, hA⟩ := F
  dsimp only at hx hb hml hown hts hR0 hret hlk hl0 hK hA
  subst hrm; subst hR0; subst hl0
  have hR := gw_hR (d' := d') (d := d) (maxL := maxL) hd1 hd2
  exact gw_ran F0 (fun H locs ls hP hlv => va_runV (Ts := Ts) ⟨hx, hb, hml, hown, hts⟩ (hM H.size) ⟨callB_of n hts (gw_gI hw.1) rfl rfl rfl (hts _ hw.2.1) (hts _ hl) hw.2.2 hR, hts _ hv.1, hC ▸ hts _ hv.2⟩ (gw_preV F0 hP hi he hcl) rfl hn hlv.1 hst (lv_room hroom) hd ⟨Nat.zero_le _, Nat.zero_le _⟩) kk
theorem gw_cVN (F : gw_F X l cc nL ret own Ts rm D cl tys NC ad A) {y : MethodName} {bytes : ByteArray} {maxL n index d' d : Nat} {rt : Option FieldType} {As : List Value} {host : String} {i ci : Nat} {r : vw_C} {fs : List Value} (hM : gw_M l y bytes maxL rt Ts (gw_rm d') D cl tys NC ad E rw' (.ref (ad i) :: As) S a) (hw : gw_cw Ts y bytes maxL rt n) (hv : gw_cv Ts y) (hl : Cond.methodLinkNest own index y host ∈ Ts) (hrm : rm = gw_rm d) (hd1 : d' < d) (hd2 : maxL ≤ 21) (hi : i < NC) (he : E i (S i) = .inr (ci, fs)) (hcl : cl[ci]? = some r) (hC : y.cls = r.1) (hn : As.length = n) (hst : st0 = As.reverse ++ .ref (ad i) :: rest) (hroom : (rest.map fun v => v.category).sum ≤ 8) (hd : decode cc pc = .ok (.invokevirtual index, 3))
    (kk : gw_V X (gw_P D cl NC ad E) A nL rv a.2 (pc + 3) lv ((rw' a.1).toList ++ rest) ans) : gw_V X (gw_P D cl NC ad E) A nL rv S pc lv st0 ans := by
  have F0 := F
  obtain ⟨p, l1, e, R, s, m, args, below, meth, c⟩ := X
  obtain ⟨hx, hb, hml, hown, hts, hR0, hret, hlk, hl0, hK, hJ, hA⟩ := F
  dsimp only at hx hb hml hown hts hR0 hret hlk hl0 hK hA
  subst hrm; subst hR0; subst hl0
  have hR := gw_hR (d' := d') (d := d) (maxL := maxL) hd1 hd2
  exact gw_ran F0 (fun H locs ls hP hlv => va_runVN (Ts := Ts) ⟨hx, hb, hml, hown, hts⟩ (hM H.size) ⟨va_cnB n hts (gw_gI hw.1) rfl rfl rfl (va_tabs rfl rfl (hts _ hl)) (hts _ hw.2.1) hw.2.2 hR, hts _ hv.1, hC ▸ hts _ hv.2⟩ (gw_preV F0 hP hi he hcl) rfl hn hlv.1 hst (lv_room hroom) hd ⟨Nat.zero_le _, Nat.zero_le _⟩) kk
theorem gw_cS (F : gw_F X l cc nL ret own Ts rm D cl tys NC ad A) {y : MethodName} {bytes : ByteArray} {maxL n index d' d : Nat} {rt : Option FieldType} {As : List Value} (hM : gw_M l y bytes maxL rt Ts (gw_rm d') D cl tys NC ad E rw' As S a) (hw : gw_cw Ts y bytes maxL rt n) (hv : Cond.static y ∈ Ts) (hl : Cond.methodLink own index y ∈ Ts) (hrm : rm = gw_rm d) (hd1 : d' < d) (hd2 : maxL ≤ 21) (hn : As.length = n) (hst : st0 = As.reverse ++ rest) (hroom : (rest.map fun v => v.category).sum ≤ 8) (hd : decode cc pc = .ok (.invokestatic index, 3))
    (kk : gw_V X (gw_P D cl NC ad E) A nL rv a.2 (pc + 3) lv ((rw' a.1).toList ++ rest) ans) : gw_V X (gw_P D cl NC ad E) A nL rv S pc lv st0 ans := by
  have F0 := F
  obtain ⟨p, l1, e, R, s, m, args, below, meth, c⟩ := X
  obtain ⟨hx, hb, hml, hown, hts, hR0, hret, hlk, hl0, hK, hJ, hA⟩ := F
  dsimp only at hx hb hml hown hts hR0 hret hlk hl0 hK hA
  subst hrm; subst hR0; subst hl0
  have hR := gw_hR (d' := d') (d := d) (maxL := maxL) hd1 hd2
  exact gw_ran F0 (fun H locs ls hP hlv => va_runS (Ts := Ts) ⟨hx, hb, hml, hown, hts⟩ (hM H.size) ⟨callB_of n hts (gw_gI hw.1) rfl rfl rfl (hts _ hw.2.1) (hts _ hl) hw.2.2 hR, hts _ hv⟩ (gw_pre F0 hP) rfl hn hlv.1 hst (lv_room hroom) hd ⟨Nat.zero_le _, Nat.zero_le _⟩) kk
theorem gw_cSN (F : gw_F X l cc nL ret own Ts rm D cl tys NC ad A) {y : MethodName} {bytes : ByteArray} {maxL n index d' d : Nat} {rt : Option FieldType} {As : List Value} {host : String} (hM : gw_M l y bytes maxL rt Ts (gw_rm d') D cl tys NC ad E rw' As S a) (hw : gw_cw Ts y bytes maxL rt n) (hv : Cond.static y ∈ Ts) (hl : Cond.methodLinkNest own index y host ∈ Ts) (hrm : rm = gw_rm d) (hd1 : d' < d) (hd2 : maxL ≤ 21) (hn : As.length = n) (hst : st0 = As.reverse ++ rest) (hroom : (rest.map fun v => v.category).sum ≤ 8) (hd : decode cc pc = .ok (.invokestatic index, 3))
    (kk : gw_V X (gw_P D cl NC ad E) A nL rv a.2 (pc + 3) lv ((rw' a.1).toList ++ rest) ans) : gw_V X (gw_P D cl NC ad E) A nL rv S pc lv st0 ans := by
  have F0 := F
  obtain ⟨p, l1, e, R, s, m, args, below, meth, c⟩ := X
  obtain ⟨hx, hb, hml, hown, hts, hR0, hret, hlk, hl0, hK, hJ, hA⟩ := F
  dsimp only at hx hb hml hown hts hR0 hret hlk hl0 hK hA
  subst hrm; subst hR0; subst hl0
  have hR := gw_hR (d' := d') (d := d) (maxL := maxL) hd1 hd2
  exact gw_ran F0 (fun H locs ls hP hlv => va_runSN (Ts := Ts) ⟨hx, hb, hml, hown, hts⟩ (hM H.size) ⟨va_cnB n hts (gw_gI hw.1) rfl rfl rfl (va_tabs rfl rfl (hts _ hl)) (hts _ hw.2.1) hw.2.2 hR, hts _ hv, trivial⟩ (gw_pre F0 hP) rfl hn hlv.1 hst (lv_room hroom) hd ⟨Nat.zero_le _, Nat.zero_le _⟩) kk
end GC
theorem po_if {γ : Type} {Φ : γ → Prop} {c : Prop} [Decidable c] {a b : γ} (ka : c → Φ a) (kb : ¬ c → Φ b) : Φ (if c then a else b) := by
  by_cases h : c
  · rw [if_pos h]; exact ka h
  · rw [if_neg h]; exact kb h
theorem po_n {α γ : Type} {Φ : γ → Prop} {x : α} {K : α → γ} (k : ∀ y, y = x → Φ (K y)) : Φ (gw_n x K) := k x rfl
theorem po_b {α β γ : Type} {Φ : γ → Prop} {a : α × β} {K : α → β → γ} {P : α → β → Prop} (hp : P a.1 a.2) (k : ∀ r U, P r U → Φ (K r U)) : Φ (gw_b a K) := k a.1 a.2 hp
theorem gw_inlt {j : Int32} {n : Nat} (h : vp_in j n) : j.toNatClampNeg < n := Nat.not_le.mp fun q => h (Or.inr q)
theorem gw_inE {v x : Int32} {n : Nat} (e : v = x) (h : vp_in x n) : vp_in v n := e ▸ h
theorem gw_and1023 (x : Int32) : vp_in (x &&& (1023 : Int32)) 1024 := pk_andIn x 10 (by decide) (by decide)
theorem gw_and255 (x : Int32) : vp_in (x &&& (255 : Int32)) 256 := pk_andIn x 8 (by decide) (by decide)
theorem gw_and31 (x : Int32) : vp_in (x &&& (31 : Int32)) 32 := pk_andIn x 5 (by decide) (by decide)
theorem gw_and15 (x : Int32) : vp_in (x &&& (15 : Int32)) 16 := pk_andIn x 4 (by decide) (by decide)
theorem gw_and7 (x : Int32) : vp_in (x &&& (7 : Int32)) 8 := pk_andIn x 3 (by decide) (by decide)
theorem gw_and3 (x : Int32) : vp_in (x &&& (3 : Int32)) 4 := pk_andIn x 2 (by decide) (by decide)
theorem gw_inB {i b : Int32} {N : Nat} (hb : b.toInt = (N : Int)) (h : ¬ b ≤ i) (h0 : 0 ≤ i.toInt) : vp_in i N := by
  rw [vp_in_iff]
  rw [Int32.le_iff_toInt_le] at h
  omega
theorem gw_inB0 {i b : Int32} {N : Nat} (hb : b.toInt = (N : Int)) (h : ¬ b ≤ i) (h0 : ¬ i < 0) : vp_in i N := by
  refine gw_inB hb h ?_
  rw [Int32.lt_iff_toInt_lt, Int32.toInt_zero] at h0
  omega
theorem gw_lt1 {i b : Int32} (h : ¬ b ≤ i) : (i + 1).toInt = i.toInt + 1 := by
  rw [Int32.le_iff_toInt_le] at h
  have h1 := Int32.toInt_lt b
  have h2 := Int32.le_toInt i
  rw [Int32.toInt_add, show (1 : Int32).toInt = 1 from rfl]
  exact Int.bmod_eq_of_le (by omega) (by omega)
theorem gw_stp {i b : Int32} {n : Nat} (h : ¬ b ≤ i) (hf : b.toInt - i.toInt < ((n + 1 : Nat) : Int)) : 0 < n ∧ b.toInt - (i + 1).toInt < (n : Int) ∧ (i + 1).toInt = i.toInt + 1 := by
  have h3 := gw_lt1 h
  rw [Int32.le_iff_toInt_le] at h
  omega
theorem gw_stp0 {i b : Int32} (h : ¬ b ≤ i) (h0 : 0 ≤ i.toInt) : 0 ≤ (i + 1).toInt := by
  rw [gw_lt1 h]; omega
theorem gw_us {S : gw_S} {i k : Nat} {x : Int32} : gw_u S i k x i k = x := by simp [gw_u, va_up, upd]
theorem gw_un {S : gw_S} {i k a b : Nat} {x : Int32} (h : ¬ (a = i ∧ b = k)) : gw_u S i k x a b = S a b := by
  by_cases e : a = i
  · subst e
    have hb : ¬ b = k := fun q => h ⟨rfl, q⟩
    simp [gw_u, va_up, upd, hb]
  · simp [gw_u, va_up, e]
theorem gw_inC {i b : Int32} {N : Nat} (hb : b.toInt = (N : Int)) (h : i < b) (h0 : ¬ i < 0) : vp_in i N := by
  rw [vp_in_iff]
  rw [Int32.lt_iff_toInt_lt] at h
  rw [Int32.lt_iff_toInt_lt, Int32.toInt_zero] at h0
  omega
theorem gw_popIn {S S' : gw_S} {c : Nat} (e : S' = gw_u S c 1 (S c 1 - (1 : Int32))) (h5 : ¬ S c 1 < (1 : Int32)) (h14 : S c 1 ≤ (8 : Int32)) : vp_in (S' c 1) 8 := by
  subst e
  rw [gw_us, vp_in_iff]
  rw [Int32.lt_iff_toInt_lt, show (1 : Int32).toInt = 1 from rfl] at h5
  rw [Int32.le_iff_toInt_le, show (8 : Int32).toInt = 8 from rfl] at h14
  have h1 : (S c 1 - (1 : Int32)).toInt = (S c 1).toInt - 1 := by
    rw [Int32.toInt_sub, show (1 : Int32).toInt = 1 from rfl]
    exact Int.bmod_eq_of_le (by omega) (by omega)
  omega
theorem gw_nn {i : Int32} (h : (0 : Int32) ≤ i) : 0 ≤ i.toInt := by
  rw [Int32.le_iff_toInt_le, Int32.toInt_zero] at h; exact h
theorem gw_inX {i b c : Int32} {N : Nat} (hc : c.toInt = (N : Int)) (h : ¬ b ≤ i) (h3 : b ≤ c) (h0 : 0 ≤ i.toInt) : vp_in i N := by
  rw [vp_in_iff]
  rw [Int32.le_iff_toInt_le] at h h3
  omega
theorem gw_inG {i b : Int32} {N : Nat} (hb : vp_in b N) (h : ¬ b < i) (h0 : 0 ≤ i.toInt) : vp_in i N := by
  rw [vp_in_iff] at hb ⊢
  rw [Int32.lt_iff_toInt_lt] at h
  omega
theorem gw_add1 {i : Int32} (h : i.toInt < 2147483647) : (i + 1).toInt = i.toInt + 1 := by
  have h2 := Int32.le_toInt i
  rw [Int32.toInt_add, show (1 : Int32).toInt = 1 from rfl]
  exact Int.bmod_eq_of_le (by omega) (by omega)
theorem gw_stpG {i b : Int32} {n : Nat} (hb : vp_in b 16) (h : ¬ b < i) (hf : b.toInt + 1 - i.toInt < ((n + 1 : Nat) : Int)) : 0 < n ∧ b.toInt + 1 - (i + 1).toInt < (n : Int) ∧ (i + 1).toInt = i.toInt + 1 := by
  rw [vp_in_iff] at hb
  rw [Int32.lt_iff_toInt_lt] at h
  have h3 := gw_add1 (i := i) (by omega)
  omega
theorem gw_up1 {i : Int32} (h : (i + 1).toInt = i.toInt + 1) (h0 : 0 ≤ i.toInt) : 0 ≤ (i + 1).toInt := by omega
theorem pg_ix {p x y : Int32} (hp : vp_in p 4) (hx : vp_in x 64) (hy : vp_in y 40) : vp_in (((p * (2560 : Int32)) + (y * (64 : Int32))) + x) 10240 := by
  obtain ⟨a, ha, rfl⟩ := vp_in_of hp (by decide)
  obtain ⟨b, hb, rfl⟩ := vp_in_of hy (by decide)
  obtain ⟨c, hc, rfl⟩ := vp_in_of hx (by decide)
  rw [show (2560 : Int32) = nI 2560 from rfl, show (64 : Int32) = nI 64 from rfl, pk_mul, pk_mul, nI_add, nI_add]
  exact vp_in_nI (by omega) (by decide)
theorem pg_1 {v p : Int32} (e : v = p * (2560 : Int32)) (hp : vp_in p 4) : v ≤ v + (2560 : Int32) := by
  obtain ⟨a, ha, rfl⟩ := vp_in_of hp (by decide)
  rw [e, show (2560 : Int32) = nI 2560 from rfl, pk_mul, nI_add]
  exact nI_le (by omega) (by omega)
theorem pg_2 {v p : Int32} (e : v = p * (2560 : Int32)) (hp : vp_in p 4) : (0 : Int32) ≤ v := by
  obtain ⟨a, ha, rfl⟩ := vp_in_of hp (by decide)
  rw [e, show (2560 : Int32) = nI 2560 from rfl, pk_mul]
  exact nI_pos' (by omega)
theorem pg_3 {v p : Int32} (e : v = p * (2560 : Int32)) (hp : vp_in p 4) : v + (2560 : Int32) ≤ (10240 : Int32) := by
  obtain ⟨a, ha, rfl⟩ := vp_in_of hp (by decide)
  rw [e, show (2560 : Int32) = nI 2560 from rfl, pk_mul, nI_add, show (10240 : Int32) = nI 10240 from rfl]
  exact nI_le (by omega) (by omega)
theorem gw_addI {a b : Int32} (h1 : -2147483648 ≤ a.toInt + b.toInt) (h2 : a.toInt + b.toInt ≤ 2147483647) : (a + b).toInt = a.toInt + b.toInt := by
  rw [Int32.toInt_add]
  exact Int.bmod_eq_of_le (by omega) (by omega)
theorem gw_subI {a b : Int32} (h1 : -2147483648 ≤ a.toInt - b.toInt) (h2 : a.toInt - b.toInt ≤ 2147483647) : (a - b).toInt = a.toInt - b.toInt := by
  rw [Int32.toInt_sub]
  exact Int.bmod_eq_of_le (by omega) (by omega)
theorem gw_fu_ex (x : Int) : ∃ n : Nat, x < (n : Int) ∧ 0 < n := ⟨x.toNat + 1, by omega, by omega⟩
noncomputable def gw_fu (x : Int) : Nat := Classical.choose (gw_fu_ex x)
theorem gw_fu_lt (x : Int) : x < (gw_fu x : Int) := (Classical.choose_spec (gw_fu_ex x)).1
theorem gw_fu_pos (x : Int) : 0 < gw_fu x := (Classical.choose_spec (gw_fu_ex x)).2

def cSh (x : Int32) : Prop := x.toInt16.toInt32 = x
theorem cSh_w (x : Int32) : cSh x.toInt16.toInt32 := by
  unfold cSh
  simp
def cYb (x : Int32) : Prop := -2097152 ≤ x.toInt ∧ x.toInt ≤ 2097152
def cOKc (i k : Nat) (x : Int32) : Prop := (i = 3 ∨ i = 8 → vp_in x 256) ∧ (i = 4 → cSh x) ∧ (i = 9 → k = 1 ∨ k = 2 → vp_in x 4) ∧ (i = 10 → fits .byte (.int x) = true) ∧ (i = 11 ∨ i = 12 ∨ i = 13 → cYb x)
def cOK (S : gw_S) : Prop := ∀ i k, cOKc i k (S i k)
theorem cOK_u {S S' : gw_S} {i k : Nat} {x : Int32} (e : S' = gw_u S i k x) (h : cOK S) (hx : cOKc i k x) : cOK S' := by
  subst e
  intro a b
  by_cases q : a = i ∧ b = k
  · obtain ⟨rfl, rfl⟩ := q
    rw [gw_us]; exact hx
  · rw [gw_un q]; exact h a b
theorem cOK_o {S S' : gw_S} {i k : Nat} {x : Int32} (e : S' = gw_u S i k x) (h : cOK S) (hi : i ≠ 3 ∧ i ≠ 8 ∧ i ≠ 4 ∧ i ≠ 9 ∧ i ≠ 10 ∧ i ≠ 11 ∧ i ≠ 12 ∧ i ≠ 13) : cOK S' :=
  cOK_u e h ⟨fun q => absurd q (by omega), fun q => absurd q (by omega), fun q => absurd q (by omega), fun q => absurd q (by omega), fun q => absurd q (by omega)⟩
theorem cOK_v {S S' : gw_S} {k : Nat} {x : Int32} (e : S' = gw_u S 4 k x) (h : cOK S) (hx : cSh x) : cOK S' :=
  cOK_u e h ⟨fun q => absurd q (by omega), fun _ => hx, fun q => absurd q (by omega), fun q => absurd q (by omega), fun q => absurd q (by omega)⟩
theorem cOK_x {S S' : gw_S} {k : Nat} {x : Int32} (e : S' = gw_u S 10 k (vp_nar .byte x)) (h : cOK S) : cOK S' :=
  cOK_u e h ⟨fun q => absurd q (by omega), fun q => absurd q (by omega), fun q => absurd q (by omega), fun _ => by rw [vp_nar_byte]; exact pk_fb x, fun q => absurd q (by omega)⟩
theorem cOK_B {S S' : gw_S} {b k : Nat} {x : Int32} (hb : b = 2 ∨ b = 7) (e : S' = gw_u S (b + 1) k x) (h : cOK S) (hx : vp_in x 256) : cOK S' :=
  cOK_u e h ⟨fun _ => hx, fun q => absurd q (by omega), fun q => absurd q (by omega), fun q => absurd q (by omega), fun q => absurd q (by omega)⟩
theorem cOK_g {S S' : gw_S} {k : Nat} {x : Int32} (e : S' = gw_u S 9 k x) (h : cOK S) (hx : vp_in x 4) : cOK S' :=
  cOK_u e h ⟨fun q => absurd q (by omega), fun q => absurd q (by omega), fun _ _ => hx, fun q => absurd q (by omega), fun q => absurd q (by omega)⟩
theorem cOK_cp {S S' : gw_S} {sp dp n : Nat} (e : S' = gw_a S 10 (va_cpy (S 10) (S 10) sp dp n)) (h : cOK S) : cOK S' := by
  subst e
  intro a b
  by_cases q : a = 10
  · subst q
    have hc : ∀ c, cOKc 10 b (S 10 c) := fun c => ⟨fun z => absurd z (by omega), fun z => absurd z (by omega), fun z => absurd z (by omega), fun _ => (h 10 c).2.2.2.1 rfl, fun z => absurd z (by omega)⟩
    have e1 : gw_a S 10 (va_cpy (S 10) (S 10) sp dp n) 10 b = va_cpy (S 10) (S 10) sp dp n b := by simp [gw_a, va_up]
    rw [e1]
    unfold va_cpy
    split
    · exact hc _
    · exact hc _
  · have e1 : gw_a S 10 (va_cpy (S 10) (S 10) sp dp n) a b = S a b := by simp [gw_a, va_up, q]
    rw [e1]; exact h a b
theorem pg_4 {p : Int32} (hp : vp_in p 4) : ¬ p * (2560 : Int32) < 0 := by
  obtain ⟨a, ha, rfl⟩ := vp_in_of hp (by decide)
  rw [show (2560 : Int32) = nI 2560 from rfl, pk_mul]
  exact nI_pos (by omega)
theorem pg_5 {p : Int32} (hp : vp_in p 4) : (p * (2560 : Int32)).toNatClampNeg + (2560 : Int32).toNatClampNeg ≤ 10240 := by
  obtain ⟨a, ha, rfl⟩ := vp_in_of hp (by decide)
  rw [show (2560 : Int32) = nI 2560 from rfl, pk_mul, nI_clamp (by omega), nI_clamp (by omega)]
  omega
theorem cOK_y {S S' : gw_S} {i k : Nat} {x : Int32} (e : S' = gw_u S i k x) (h : cOK S) (hi : i = 11 ∨ i = 12 ∨ i = 13) (hx : cYb x) : cOK S' :=
  cOK_u e h ⟨fun q => absurd q (by omega), fun q => absurd q (by omega), fun q => absurd q (by omega), fun q => absurd q (by omega), fun _ => hx⟩

