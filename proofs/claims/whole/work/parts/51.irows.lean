def gi_V (X : gx_M) (D : va_G) (A : Nat → Prop) (nL : Nat) (Q : State → Prop) (ws : va_W) (k n pc : Nat) (lv : List (Nat × Value)) (st : List Value) : Prop :=
  ∀ (H : Heap) (locs : List Loc) (ls : Array Slot), va_P D gCl ws H → va_D A ws → va_S A X.2.2.2.2.1.heap H locs → lv_has ls nL lv →
    W X.1 X.2.1 X.2.2.1 X.2.2.2.1 X.2.2.2.2.1 X.2.2.2.2.2.1 X.2.2.2.2.2.2.1 X.2.2.2.2.2.2.2.1 X.2.2.2.2.2.2.2.2.1 X.2.2.2.2.2.2.2.2.2 H locs k n Q (F0 X.2.2.2.2.2.1 pc ls st)
def gi_F (X : gx_M) (l : Launch) (cc : ByteArray) (nL : Nat) (own : String) (rm : Room) (D : va_G) (tys : List (ClassId × FieldType)) (A : Nat → Prop) : Prop :=
  X.1.tables.exec = Jvm.exec ∧ X.2.2.2.2.2.2.2.2.2.code = cc ∧ X.2.2.2.2.2.2.2.2.2.maxLocals = nL ∧ X.2.2.2.2.1.vm.findClass own = some X.2.2.2.2.2.1.cls ∧ (∀ w ∈ gTs, w.before X.2.2.2.2.2.2.1 X.2.2.2.2.1 = true) ∧ X.2.2.2.1 = rm ∧ X.2.2.2.2.2.2.2.2.1.sig.returnType = none ∧ X.2.2.2.2.2.2.2.2.1.locks = false ∧ X.2.1 = l ∧ va_K D gCl tys X.2.2.2.2.1 ∧ (∀ q : Nat, X.2.2.2.2.1.heap.size ≤ q → A q) ∧ X.2.2.2.2.2.2.2.2.1.name = "<init>" ∧ va_AO "StageMachine$Channel" X.2.2.2.2.1
def gi_Q (X : gx_M) (D : va_G) (A : Nat → Prop) (mc ms : Nat) (R : va_W → Prop) : State → Prop := MQ X.2.2.2.2.2.2.2.1 (va_Qv R (fun ws t => va_P D gCl ws t.heap ∧ va_D A ws) A) X.2.2.2.2.2.2.1 X.2.2.2.2.1 mc ms A
def gi_Pc (D : va_G) (tys : List (ClassId × FieldType)) (ci : Nat) (fs : List Value) (sz h0 : Nat) : Array Value → State → Prop := fun v U => v = ([.ref h0] : List Value).toArray ∧ U.heap.size = sz ∧ va_P D gCl [(h0, .inr (ci, fs))] U.heap ∧ va_K D gCl tys U ∧ (∀ w ∈ gTs, gw_isN w = true → va_Nw w U) ∧ va_AO "StageMachine$Channel" U
def gi_M (l : Launch) (y : MethodName) (cc : ByteArray) (maxL : Nat) (rm : Room) (D : va_G) (tys : List (ClassId × FieldType)) (ci : Nat) (fs : List Value) (mc ms : Nat) (R : Nat → va_W → Prop) : Prop :=
  ∀ sz h0 : Nat, Met l y (Cond.code y cc maxL none :: gTs.filter goodWord) rm (gi_Pc D tys ci fs sz h0) (va_Qv (R h0) (fun ws t => va_P D gCl ws t.heap ∧ va_D (va_A [(h0, .inr (ci, fs))] sz) ws) (va_A [(h0, .inr (ci, fs))] sz)) mc ms (va_A [(h0, .inr (ci, fs))] sz)
theorem gi_D1 {q : Nat × va_E} : va_D (fun _ => True) [q] := by
  refine ⟨fun i j a b hi hj _ => ?_, fun _ _ _ => trivial⟩
  have h1 := (List.getElem?_eq_some_iff.mp hi).1
  have h2 := (List.getElem?_eq_some_iff.mp hj).1
  simp at h1 h2
  omega
theorem gi_start {l : Launch} {y : MethodName} {cc : ByteArray} {maxL : Nat} {rm : Room} {D : va_G} {tys : List (ClassId × FieldType)} {ci : Nat} {fs : List Value} {mc ms : Nat} {R : Nat → va_W → Prop} (hy : plainFor y = true) (hav : 1 ≤ maxL) (hin : y.name = "<init>")
    (body : ∀ (X : gx_M) (A : Nat → Prop) (h0 : Nat), gi_F X l cc maxL y.cls rm D tys A → gi_V X D A maxL (gi_Q X D A mc ms (R h0)) [(h0, .inr (ci, fs))] 0 0 0 [(0, .ref h0)] []) : gi_M l y cc maxL rm D tys ci fs mc ms R := by
  intro sz h0
  refine va_MetF (cc := cc) (maxL := maxL) (ret := none) hy rfl ?_
  intro p e s m args below meth c s₁ B hml hv
  obtain ⟨rfl, hsz, hP, hK, hN, hO⟩ := hv
  subst hsz
  have hts := atoms_spec (ws := Cond.code y cc maxL none :: gTs.filter goodWord) B.pre
  have hall : ∀ w ∈ gTs, w.before ([.ref h0] : List Value).toArray s = true := by
    intro w hw
    rcases gTs_ok w hw with h | h
    · exact hts w (List.mem_cons_of_mem _ (List.mem_filter.mpr ⟨hw, h⟩))
    · exact va_Nw.use (gw_isN_tab h) (hN w hw h)
  rw [lg_entry_eq]
  exact body (p, l, e, (headSpec (Cond.code y cc maxL none :: gTs.filter goodWord) rm).room, s, m, ([.ref h0] : List Value).toArray, below, meth, c) (va_A [(h0, .inr (ci, fs))] s.heap.size) h0 ⟨B.exec, B.bytes, hml, findClass_of_methodNamed B.named, hall, rfl, B.returns, B.notSynchronized, rfl, hK, fun q h => Or.inr h, (name_of_methodNamed B.named B.method).1.trans hin, hO⟩ s.heap [] _ hP (gi_D1.self) va_S.rf (lv_entry ([.ref h0] : List Value) (n := maxL) hav)
section GI
variable {X : gx_M} {l : Launch} {cc : ByteArray} {nL : Nat} {own : String} {rm : Room} {D : va_G} {tys : List (ClassId × FieldType)} {A : Nat → Prop} {Q : State → Prop} {ws : va_W} {k n pc : Nat} {lv : List (Nat × Value)} {rest : List Value}
theorem gi_aload_n (F : gi_F X l cc nL own rm D tys A) {j : Fin 4} {i : Nat} {a : Nat} (q : Nat) (hd : decode cc pc = .ok (.aload_n j, 1)) (hi : (j : Nat) = i) (hk : lv[q]? = some (i, .ref a)) (kk : gi_V X D A nL Q ws k n (pc + 1) lv (.ref a :: rest)) : gi_V X D A nL Q ws k n pc lv rest := fun H locs ls hP hD hS hl => lv_aload_n F.1 F.2.1 hd hi (lv_at hl q hk) (kk H locs ls hP hD hS hl)
theorem gi_iconst (F : gi_F X l cc nL own rm D tys A) {z : Int} {v : Int32} (hd : decode cc pc = .ok (.iconst z, 1)) (hv : Int32.ofInt z = v) (kk : gi_V X D A nL Q ws k n (pc + 1) lv (.int v :: rest)) : gi_V X D A nL Q ws k n pc lv rest := fun H locs ls hP hD hS hl => lv_iconst F.1 F.2.1 hd hv (kk H locs ls hP hD hS hl)
theorem gi_bipush (F : gi_F X l cc nL own rm D tys A) {z : Int} {v : Int32} (hd : decode cc pc = .ok (.bipush z, 2)) (hv : (Int8.ofInt z).toInt32 = v) (kk : gi_V X D A nL Q ws k n (pc + 2) lv (.int v :: rest)) : gi_V X D A nL Q ws k n pc lv rest := fun H locs ls hP hD hS hl => lv_bipush F.1 F.2.1 hd hv (kk H locs ls hP hD hS hl)
theorem gi_sipush (F : gi_F X l cc nL own rm D tys A) {z : Int} {v : Int32} (hd : decode cc pc = .ok (.sipush z, 3)) (hv : (Int16.ofInt z).toInt32 = v) (kk : gi_V X D A nL Q ws k n (pc + 3) lv (.int v :: rest)) : gi_V X D A nL Q ws k n pc lv rest := fun H locs ls hP hD hS hl => lv_sipush F.1 F.2.1 hd hv (kk H locs ls hP hD hS hl)
theorem gi_dup (F : gi_F X l cc nL own rm D tys A) {a : Nat} (hd : decode cc pc = .ok (.dup, 1)) (kk : gi_V X D A nL Q ws k n (pc + 1) lv (.ref a :: .ref a :: rest)) : gi_V X D A nL Q ws k n pc lv (.ref a :: rest) := fun H locs ls hP hD hS hl => lv_dup F.1 F.2.1 hd rfl (kk H locs ls hP hD hS hl)
theorem gi_obj (F : gi_F X l cc nL own rm D tys A) {a idx : Nat} (hlink : Cond.methodLink own idx ⟨"java/lang/Object", "<init>", "()V"⟩ ∈ gTs) (hd : decode cc pc = .ok (.invokespecial idx, 3)) (hf : 1 ≤ rm.frames) (hr : (rest.map fun v => v.category).sum + 20 ≤ rm.locals) (kk : gi_V X D A nL Q ws k n (pc + 3) lv rest) : gi_V X D A nL Q ws k n pc lv (.ref a :: rest) := fun H locs ls hP hD hS hl => by
  have hR := F.2.2.2.2.2.1
  exact W.objInit F.1 F.2.1 F.2.2.2.1 (F.2.2.2.2.1 _ hlink) (F.2.2.2.2.1 _ tw_17) (F.2.2.2.2.1 _ tw_18) rfl (by rw [F.2.2.1]; exact hl.1) rfl hd (by rw [hR]; exact hf) (by rw [hR]; exact Nat.le_trans (by show 2 * 0 + _ + 12 ≤ _; omega) hr) (kk H locs ls hP hD hS hl)
theorem gi_put (F : gi_F X l cc nL own rm D tys A) {C : String} {T : u_T} {N ci index a : Nat} (hin : ∀ w ∈ u_ws C T N, w ∈ gTs) (ty0 : Nat → FieldType) (hty : ∀ k, k < N → parseFieldDescriptor (T k).2.2.1 = some (ty0 k)) (hnm : ∀ a, a < N → ∀ b, b < N → a ≠ b → (T a).2.1 ≠ (T b).2.1) (q0 : Nat) {fs : List Value} (he : ws[q0]? = some (a, .inr (ci, fs))) (hc : gCl[ci]? = some (C, T, N)) (f : Nat) (hk : f < N) (hlink : Cond.fieldLink own index C (T f).2.1 (T f).2.2.1 ∈ gTs) (hsame : (T f).1 = C) (hfin : (T f).2.2.2 = false) {ty : FieldType} {v : Value} (hdt : parseFieldDescriptor (T f).2.2.1 = some ty) (hn : narrow ty v = v) (hfit : fits ty v = true) (hl : f < fs.length) {ws' : va_W} (hw : ws.set q0 (a, .inr (ci, fs.set f v)) = ws') (hd : decode cc pc = .ok (.putfield index, 3)) (kk : gi_V X D A nL Q ws' k n (pc + 3) lv rest) : gi_V X D A nL Q ws k n pc lv (v :: .ref a :: rest) := fun H locs ls hP hD hS hl0 =>
  va_put F.1 F.2.1 F.2.2.2.2.1 hin ty0 hty hnm F.2.2.2.1 F.2.2.2.2.2.2.2.2.2.1 hP hD hS q0 he hc f hk (F.2.2.2.2.1 _ hlink) (fun x hx => by rw [← hsame]; exact hx) hfin hdt hn hfit hl hd (fun H1 locs1 hP1 hD1 hS1 => kk H1 locs1 ls (by rw [← hw]; exact hP1) (by rw [← hw]; exact hD1) hS1 hl0)
theorem gi_putF (F : gi_F X l cc nL own rm D tys A) {T : u_T} {N ci index a : Nat} (hin : ∀ w ∈ u_ws own T N, w ∈ gTs) (ty0 : Nat → FieldType) (hty : ∀ k, k < N → parseFieldDescriptor (T k).2.2.1 = some (ty0 k)) (hnm : ∀ a, a < N → ∀ b, b < N → a ≠ b → (T a).2.1 ≠ (T b).2.1) (q0 : Nat) {fs : List Value} (he : ws[q0]? = some (a, .inr (ci, fs))) (hc : gCl[ci]? = some (own, T, N)) (f : Nat) (hk : f < N) (hlink : Cond.fieldLink own index own (T f).2.1 (T f).2.2.1 ∈ gTs) (hsame : (T f).1 = own) (hfin : (T f).2.2.2 = true) {ty : FieldType} {v : Value} (hdt : parseFieldDescriptor (T f).2.2.1 = some ty) (hn : narrow ty v = v) (hfit : fits ty v = true) (hl : f < fs.length) {ws' : va_W} (hw : ws.set q0 (a, .inr (ci, fs.set f v)) = ws') (hd : decode cc pc = .ok (.putfield index, 3)) (kk : gi_V X D A nL Q ws' k n (pc + 3) lv rest) : gi_V X D A nL Q ws k n pc lv (v :: .ref a :: rest) := fun H locs ls hP hD hS hl0 =>
  va_putF F.1 F.2.1 F.2.2.2.2.1 hin ty0 hty hnm F.2.2.2.1 F.2.2.2.2.2.2.2.2.2.1 hP hD hS q0 he hc f hk (F.2.2.2.2.1 _ hlink) (fun x hx => by rw [← hsame]; exact hx) hfin F.2.2.2.2.2.2.2.2.2.2.2.1 hsame hdt hn hfit hl hd (fun H1 locs1 hP1 hD1 hS1 => kk H1 locs1 ls (by rw [← hw]; exact hP1) (by rw [← hw]; exact hD1) hS1 hl0)
theorem gi_newa (F : gi_F X l cc nL own rm D tys A) {atype : ArrayType} {ty : FieldType} (hty : newarray.typeOf atype = ty) (harr : Cond.arrayClass ty ∈ gTs) (hra : ∀ (U : State) (c : ClassId), va_RA U c ty = (U.vm.findClass ("[" ++ ty.toString) = some c)) (t0 : Nat) {cX : ClassId} (ht : tys[t0]? = some (cX, ty)) {v : Int32} {N : Nat} {a0 : vp_A} (ha : ∀ cA : ClassId, vp_cell cA a0 = arrV cA N (fun _ => defaultValue ty)) (hn : ¬ v < 0) (hN : v.toNatClampNeg = N) (hbytes : N * componentBytes ty ≤ 536870912) (hc : k + 1 ≤ rm.cells) (hs : n + N ≤ rm.slots) (hd : decode cc pc = .ok (.newarray atype, 2)) (kk : ∀ q : Nat, gi_V X D A nL Q (ws ++ [(q, .inl (cX, a0))]) (k + 1) (n + N) (pc + 2) lv (.ref q :: rest)) : gi_V X D A nL Q ws k n pc lv (.int v :: rest) := fun H locs ls hP hD hS hl => by
  have hR := F.2.2.2.2.2.1
  refine va_newa F.1 F.2.1 (by rw [hty]; exact F.2.2.2.2.1 _ harr) hty F.2.2.2.2.2.2.2.2.2.1 hP hD hS F.2.2.2.2.2.2.2.2.2.2.1 ha hn hN hbytes (by rw [hR]; exact hc) (by rw [hR]; exact hs) hd (fun q cA H1 hK1 hP1 hD1 hS1 => ?_)
  have e1 := (F.2.2.2.2.2.2.2.2.2.1.2 t0 _ ht).2
  have e2 := (hK1.2 tys.length (cA, ty) (by simp)).2
  rw [hra] at e1 e2
  have e3 : cA = cX := Option.some.inj (e2.symm.trans e1)
  subst e3
  exact kk q H1 locs ls hP1 hD1 hS1 hl
theorem gi_ret {mc ms : Nat} {R : va_W → Prop} (F : gi_F X l cc nL own rm D tys A) (hR : R ws) (hk : k = mc) (hn : n = ms) (hd : decode cc pc = .ok (.return_, 1)) : gi_V X D A nL (gi_Q X D A mc ms R) ws k n pc lv [] := fun H locs ls hP hD hS hl => by
  subst hk; subst hn
  exact W.vret F.1 F.2.1 F.2.2.2.2.2.2.1 (fun t ht _ => ⟨⟨ws, rfl, hR, by rw [ht]; exact hP, hD⟩, hS.F ht⟩) hS.2.2 hd F.2.2.2.2.2.2.2.1
end GI
