theorem gi_makeP {X : gx_M} {l : Launch} {cc : ByteArray} {nL : Nat} {own : String} {rm : Room} {D : va_G} {tys : List (ClassId × FieldType)} {A : Nat → Prop} {Q : State → Prop} {ws : va_W} {k n pc : Nat} {lv : List (Nat × Value)} {rest : List Value} (F : gi_F X l cc nL own rm D tys A)
    {y : MethodName} {bytes : ByteArray} {maxL ci mc ms N i1 i2 : Nat} {rm' : Room} {fs : List Value} {R : Nat → va_W → Prop} {C : String} {T : u_T} (hM : gi_M l y bytes maxL rm' D tys ci fs mc ms R) (hw : gw_cw gTs y bytes maxL none 0) (hci : Cond.instanceMethod y ∈ gTs) (hnm : y.name = "<init>") (hl : Cond.methodLink own i2 y ∈ gTs)
    (hin : ∀ w ∈ u_ws C T N, w ∈ gTs) (ty : Nat → FieldType) (hty : ∀ k, k < N → parseFieldDescriptor (T k).2.2.1 = some (ty k)) (hcl : Cond.classLink own i1 C ∈ gTs) (hinst : Cond.instantiable C N ∈ gTs) (hini : Cond.initialized C ∈ gTs) (hc : gCl[ci]? = some (C, T, N)) (hfs : ∀ j, j < N → defaultValue (ty j) = vp_V fs j)
    (hrc : rm'.cells = mc) (hrs : rm'.slots = ms) (hR : rm'.frames + 1 ≤ rm.frames ∧ 8 + (maxL + 11) + rm'.locals ≤ rm.locals) (hk : k + 1 + mc ≤ rm.cells) (hn : n + N + ms ≤ rm.slots) (hroom : (((Value.ref 0) :: rest).map fun v => v.category).sum ≤ 8)
    (hd1 : decode cc pc = .ok (.new i1, 3)) (hd2 : decode cc (pc + 3) = .ok (.dup, 1)) (hd3 : decode cc (pc + 4) = .ok (.invokespecial i2, 3))
    (kk : ∀ (q : Nat) (w1 : va_W), R q w1 → gi_V X D A nL Q (ws ++ w1) (k + 1 + mc) (n + N + ms) (pc + 7) lv (.ref q :: rest)) : gi_V X D A nL Q ws k n pc lv rest := by
  have F0 := F
  obtain ⟨p, l1, e, R1, s, m, args, below, meth, c⟩ := X
  obtain ⟨hx, hb, hml, hown, hts, hR0, hret, hlk, hl0, hK, hA, hmn⟩ := F
  dsimp only at hx hb hml hown hts hR0 hret hlk hl0 hK hA hmn
  subst hR0; subst hl0
  intro H locs ls hP hD hS hlv
  refine va_new (ci := ci) (fs := fs) (C := C) (T := T) (N := N) hx hb hts hin ty hty hown (hts _ hcl) (hts _ hinst) (hts _ hini) hK hP hD hS hA hc hfs (show k + 1 ≤ R1.cells by omega) (show n + N ≤ R1.slots by omega) hd1 (fun q H2 hP hD hS => ?_)
  refine lv_dup hx hb hd2 rfl ?_
  have hPc := hP.sub (ws' := [(q, .inr (ci, fs))]) [ws.length] (by simp)
  have hFc := va_free (wc := [(q, .inr (ci, fs))]) hD hS hA [ws.length] gi_lt
  refine va_callv (va_runI (As := []) (rest := .ref q :: rest) ⟨hx, hb, hml, hown, hts⟩ (hM H2.size q) ⟨callB_of 0 hts (gw_gI hw.1) rfl hrc hrs (hts _ hw.2.1) (hts _ hl) hw.2.2 hR, hnm, hts _ hci⟩ (gi_pre F0 hPc) rfl rfl hlv.1 rfl (lv_room hroom) hd3 ⟨show k + 1 + mc ≤ R1.cells by omega, show n + N + ms ≤ R1.slots by omega⟩) hS (fun q _ h => hFc q h) hFc (fun u t H1 locs ht hvm hR1 hB hz1 hk1 hS => ?_)
  obtain ⟨hP1, hD1⟩ := hB
  rw [ht] at hP1
  obtain ⟨hP, hD⟩ := va_join (wr := ws) (w1 := u) hP hD [ws.length] (List.range ws.length) gi_lt gi_rg (gi_ndr _) (fun i hi => by simp at hi ⊢; omega) hk1 hFc hP1 hD1
  exact kk q u hR1 H1 locs ls hP hD hS hlv
