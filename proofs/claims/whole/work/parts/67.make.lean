def gE_F (X : gx_M) (l : Launch) (D : va_G) (tys : List (ClassId × FieldType)) (A : Nat → Prop) : Prop :=
  X.1.tables.exec = Jvm.exec ∧ X.2.2.2.2.2.2.2.2.2.code = code ∧ X.2.2.2.2.2.2.2.2.2.maxLocals = 4 ∧ X.2.2.2.2.1.vm.findClass "StageMachineLaw" = some X.2.2.2.2.2.1.cls ∧ (∀ w ∈ gTs, w.before X.2.2.2.2.2.2.1 X.2.2.2.2.1 = true) ∧ X.2.1 = l ∧ X.2.2.2.1 = room_1 ∧ va_K D gCl tys X.2.2.2.2.1 ∧ (∀ q : Nat, X.2.2.2.2.1.heap.size ≤ q → A q) ∧ va_AO "StageMachine$Channel" X.2.2.2.2.1
theorem gE_pre {s : State} {args : Array Value} {D : va_G} {tys : List (ClassId × FieldType)} (hts : ∀ w ∈ gTs, w.before args s = true) (hK : va_K D gCl tys s) (hO : va_AO "StageMachine$Channel" s) {H : Heap} {q ci : Nat} {fs : List Value} (hP : va_P D gCl [(q, .inr (ci, fs))] H) : PreS s H (gi_Pc D tys ci fs H.size q) [.ref q] :=
  ⟨fun a U g mk q => ⟨q.1, q.2.1, q.2.2.1, va_K.moved (u := U) (U := U.calling g mk a) (Vm.Alike.refl U.vm) q.2.2.2.1, fun w hw hn => va_Nw.same (u := U) (U := U.calling g mk a) (gw_isN_tab hn) rfl (q.2.2.2.2.1 w hw hn), va_AO.moved (u := U) (U := U.calling g mk a) (Vm.Alike.refl U.vm) q.2.2.2.2.2⟩, fun U hU hW => ⟨rfl, by rw [hU], by rw [hU]; exact hP, va_K.moved hW.alike hK, fun w hw hn => gw_isN_warm hn hW (va_Nw.of (gw_isN_tab hn) (hts w hw)), va_AO.moved hW.alike hO⟩⟩
theorem gE_make {X : gx_M} {l : Launch} {D : va_G} {tys : List (ClassId × FieldType)} {A : Nat → Prop} {Q : State → Prop} {ws : va_W} {k n pc : Nat} {lv : List (Nat × Value)} {rest : List Value} (F : gE_F X l D tys A)
    {y : MethodName} {bytes : ByteArray} {maxL ci mc ms N i1 i2 : Nat} {rm' : Room} {fs : List Value} {R : Nat → va_W → Prop} {C : String} {T : u_T} (hM : gi_M l y bytes maxL rm' D tys ci fs mc ms R) (hw : gw_cw gTs y bytes maxL none 0) (hci : Cond.instanceMethod y ∈ gTs) (hnm : y.name = "<init>") (hl : Cond.methodLink "StageMachineLaw" i2 y ∈ gTs)
    (hin : ∀ w ∈ u_ws C T N, w ∈ gTs) (ty : Nat → FieldType) (hty : ∀ k, k < N → parseFieldDescriptor (T k).2.2.1 = some (ty k)) (hcl : Cond.classLink "StageMachineLaw" i1 C ∈ gTs) (hinst : Cond.instantiable C N ∈ gTs) (hini : Cond.initialized C ∈ gTs) (hc : gCl[ci]? = some (C, T, N)) (hfs : ∀ j, j < N → defaultValue (ty j) = vp_V fs j)
    (hrc : rm'.cells = mc) (hrs : rm'.slots = ms) (hR : rm'.frames + 1 ≤ room_1.frames ∧ 8 + (maxL + 11) + rm'.locals ≤ room_1.locals) (hk : k + 1 + mc ≤ room_1.cells) (hn : n + N + ms ≤ room_1.slots) (hroom : (((Value.ref 0) :: rest).map fun v => v.category).sum ≤ 8)
    (hd1 : decode code pc = .ok (.new i1, 3)) (hd2 : decode code (pc + 3) = .ok (.dup, 1)) (hd3 : decode code (pc + 4) = .ok (.invokespecial i2, 3))
    (kk : ∀ (q : Nat) (w1 : va_W), R q w1 → gi_V X D A 4 Q (ws ++ w1) (k + 1 + mc) (n + N + ms) (pc + 7) lv (.ref q :: rest)) : gi_V X D A 4 Q ws k n pc lv rest := by
  obtain ⟨p, l1, e, R1, s, m, args, below, meth, c⟩ := X
  obtain ⟨hx, hb, hml, hown, hts, hl0, hR0, hK, hA, hO⟩ := F
  dsimp only at hx hb hml hown hts hR0 hl0 hK hA hO
  subst hR0; subst hl0
  intro H locs ls hP hD hS hlv
  refine va_new (ci := ci) (fs := fs) (C := C) (T := T) (N := N) hx hb hts hin ty hty hown (hts _ hcl) (hts _ hinst) (hts _ hini) hK hP hD hS hA hc hfs (show k + 1 ≤ room_1.cells by omega) (show n + N ≤ room_1.slots by omega) hd1 (fun q H2 hP hD hS => ?_)
  refine lv_dup hx hb hd2 rfl ?_
  have hPc := hP.sub (ws' := [(q, .inr (ci, fs))]) [ws.length] (by simp)
  have hFc := va_free (wc := [(q, .inr (ci, fs))]) hD hS hA [ws.length] gi_lt
  refine va_callv (va_runI (As := []) (rest := .ref q :: rest) ⟨hx, hb, hml, hown, hts⟩ (hM H2.size q) ⟨callB_of 0 hts (gw_gI hw.1) rfl hrc hrs (hts _ hw.2.1) (hts _ hl) hw.2.2 hR, hnm, hts _ hci⟩ (gE_pre hts hK hO hPc) rfl rfl hlv.1 rfl (lv_room hroom) hd3 ⟨show k + 1 + mc ≤ room_1.cells by omega, show n + N + ms ≤ room_1.slots by omega⟩) hS (fun q _ h => hFc q h) hFc (fun u t H1 locs ht hvm hR1 hB hz1 hk1 hS => ?_)
  obtain ⟨hP1, hD1⟩ := hB
  rw [ht] at hP1
  obtain ⟨hP, hD⟩ := va_join (wr := ws) (w1 := u) hP hD [ws.length] (List.range ws.length) gi_lt gi_rg (gi_ndr _) (fun i hi => by simp at hi ⊢; omega) hk1 hFc hP1 hD1
  exact kk q u hR1 H1 locs ls hP hD hS hlv
theorem gE_ast {X : gx_M} {l : Launch} {D : va_G} {tys : List (ClassId × FieldType)} {A : Nat → Prop} {Q : State → Prop} {ws : va_W} {k n pc : Nat} {lv lv' : List (Nat × Value)} {rest : List Value} (F : gE_F X l D tys A) {j : Fin 4} {i a : Nat} (hd : decode code pc = .ok (.astore_n j, 1)) (hi : (j : Nat) = i) (hn : i < 4) (hl : (i, Value.ref a) :: lv.filter (fun q => !(q.1 == i) && !(q.1 + 1 == i && q.2.category == 2)) = lv') (kk : gi_V X D A 4 Q ws k n (pc + 1) lv' rest) : gi_V X D A 4 Q ws k n pc lv (.ref a :: rest) := fun H locs ls hP hD hS h => lv_astore_n F.1 F.2.1 hd hi h hn hl (fun ls' h' => kk H locs ls' hP hD hS h')
theorem gE_ist {X : gx_M} {l : Launch} {D : va_G} {tys : List (ClassId × FieldType)} {A : Nat → Prop} {Q : State → Prop} {ws : va_W} {k n pc : Nat} {lv lv' : List (Nat × Value)} {rest : List Value} (F : gE_F X l D tys A) {j : Fin 4} {i : Nat} {a : Int32} (hd : decode code pc = .ok (.istore_n j, 1)) (hi : (j : Nat) = i) (hn : i < 4) (hl : (i, Value.int a) :: lv.filter (fun q => !(q.1 == i) && !(q.1 + 1 == i && q.2.category == 2)) = lv') (kk : gi_V X D A 4 Q ws k n (pc + 1) lv' rest) : gi_V X D A 4 Q ws k n pc lv (.int a :: rest) := fun H locs ls hP hD hS h => lv_istore_n F.1 F.2.1 hd hi h hn hl (fun ls' h' => kk H locs ls' hP hD hS h')
theorem gE_ico {X : gx_M} {l : Launch} {D : va_G} {tys : List (ClassId × FieldType)} {A : Nat → Prop} {Q : State → Prop} {ws : va_W} {k n pc : Nat} {lv : List (Nat × Value)} {rest : List Value} (F : gE_F X l D tys A) {z : Int} {v : Int32} (hd : decode code pc = .ok (.iconst z, 1)) (hv : Int32.ofInt z = v) (kk : gi_V X D A 4 Q ws k n (pc + 1) lv (.int v :: rest)) : gi_V X D A 4 Q ws k n pc lv rest := fun H locs ls hP hD hS hl => lv_iconst F.1 F.2.1 hd hv (kk H locs ls hP hD hS hl)
theorem gE_Pl {D : va_G} {w1 w2 : va_W} {H : Heap} (h : va_P D gCl (w1 ++ w2) H) : va_P D gCl w1 H := fun k q hk => h k q (by rw [List.getElem?_append_left (List.getElem?_eq_some_iff.mp hk).1]; exact hk)
theorem gE_Pr {D : va_G} {w1 w2 : va_W} {H : Heap} (h : va_P D gCl (w1 ++ w2) H) : va_P D gCl w2 H := fun k q hk => h (w1.length + k) q (by rw [List.getElem?_append_right (Nat.le_add_right _ _), Nat.add_sub_cancel_left]; exact hk)
def gE_In (w : va_W) (q : Nat) : Prop := ∃ (k : Nat) (e : va_E), w[k]? = some (q, e)
theorem gE_Dl {A : Nat → Prop} {w1 w2 : va_W} (h : va_D A (w1 ++ w2)) : va_D (gE_In w1) w1 := by
  refine ⟨fun i j a b hi hj e => ?_, fun k q hk => ⟨k, q.2, hk⟩⟩
  refine h.1 i j a b ?_ ?_ e
  · rw [List.getElem?_append_left (List.getElem?_eq_some_iff.mp hi).1]; exact hi
  · rw [List.getElem?_append_left (List.getElem?_eq_some_iff.mp hj).1]; exact hj
theorem gE_Dr {A : Nat → Prop} {w1 w2 : va_W} (h : va_D A (w1 ++ w2)) : va_D (gE_In w2) w2 := by
  refine ⟨fun i j a b hi hj e => ?_, fun k q hk => ⟨k, q.2, hk⟩⟩
  have h1 := h.1 (w1.length + i) (w1.length + j) a b (by rw [List.getElem?_append_right (Nat.le_add_right _ _), Nat.add_sub_cancel_left]; exact hi) (by rw [List.getElem?_append_right (Nat.le_add_right _ _), Nat.add_sub_cancel_left]; exact hj) e
  omega
theorem gE_Dx {A : Nat → Prop} {w1 w2 : va_W} (h : va_D A (w1 ++ w2)) {a b : Nat} (ha : gE_In w1 a) (hb : gE_In w2 b) : a ≠ b := by
  obtain ⟨i, e, hi⟩ := ha
  obtain ⟨j, f, hj⟩ := hb
  intro hab
  have hlt := (List.getElem?_eq_some_iff.mp hi).1
  have h1 := h.1 i (w1.length + j) _ _ (by rw [List.getElem?_append_left hlt]; exact hi) (by rw [List.getElem?_append_right (Nat.le_add_right _ _), Nat.add_sub_cancel_left]; exact hj) hab
  omega
theorem gE_Al {A : Nat → Prop} {w1 w2 : va_W} (h : va_D A (w1 ++ w2)) {a : Nat} (ha : gE_In w1 a) : A a := by
  obtain ⟨i, e, hi⟩ := ha
  exact h.2 i (a, e) (by rw [List.getElem?_append_left (List.getElem?_eq_some_iff.mp hi).1]; exact hi)
theorem gE_Ar {A : Nat → Prop} {w1 w2 : va_W} (h : va_D A (w1 ++ w2)) {a : Nat} (ha : gE_In w2 a) : A a := by
  obtain ⟨i, e, hi⟩ := ha
  exact h.2 (w1.length + i) (a, e) (by rw [List.getElem?_append_right (Nat.le_add_right _ _), Nat.add_sub_cancel_left]; exact hi)
theorem gE_over : Cond.arrayOver (.object "StageMachine$Channel") ∈ lw_tbl := by decide +kernel
