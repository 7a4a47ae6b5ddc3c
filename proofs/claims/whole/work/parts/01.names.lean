-- ===== PART A: goes FIRST, ahead of the names: the tables' words, and 'selects' of the private methods out of them =====
/-- a private method of a class that the tables say can be made, by its rows of tables_1 -/
def lw_okq (q : MethodName × Nat) : Prop := (q.1.cls ≠ "java/lang/invoke/MethodHandle" ∧ q.1.cls ≠ "java/lang/invoke/VarHandle") ∧ Cond.instantiable q.1.cls q.2 ∈ tables_1 ∧ Cond.privateMethod q.1 ∈ tables_1 ∧ Cond.instanceMethod q.1 ∈ tables_1
theorem lw_p0 : lw_okq (⟨"StageMachine", "bytesOf", "(I)LStageMachine$Bytes;"⟩, 3) := ⟨⟨by decide +kernel, by decide +kernel⟩, List.mem_of_getElem? (i := 12) (by decide +kernel), List.mem_of_getElem? (i := 173) (by decide +kernel), List.mem_of_getElem? (i := 174) (by decide +kernel)⟩
theorem lw_p1 : lw_okq (⟨"StageMachine$Player", "doInstruction", "(LStageMachine$Channel;)V"⟩, 6) := ⟨⟨by decide +kernel, by decide +kernel⟩, List.mem_of_getElem? (i := 20) (by decide +kernel), List.mem_of_getElem? (i := 224) (by decide +kernel), List.mem_of_getElem? (i := 225) (by decide +kernel)⟩
theorem lw_p2 : lw_okq (⟨"StageMachine$Player", "nextByte", "()I"⟩, 6) := ⟨⟨by decide +kernel, by decide +kernel⟩, List.mem_of_getElem? (i := 20) (by decide +kernel), List.mem_of_getElem? (i := 228) (by decide +kernel), List.mem_of_getElem? (i := 229) (by decide +kernel)⟩
theorem lw_p3 : lw_okq (⟨"StageMachine$Player", "compute", "(I)V"⟩, 6) := ⟨⟨by decide +kernel, by decide +kernel⟩, List.mem_of_getElem? (i := 20) (by decide +kernel), List.mem_of_getElem? (i := 233) (by decide +kernel), List.mem_of_getElem? (i := 234) (by decide +kernel)⟩
theorem lw_p4 : lw_okq (⟨"StageMachine$Player", "nextVariable", "()I"⟩, 6) := ⟨⟨by decide +kernel, by decide +kernel⟩, List.mem_of_getElem? (i := 20) (by decide +kernel), List.mem_of_getElem? (i := 237) (by decide +kernel), List.mem_of_getElem? (i := 238) (by decide +kernel)⟩
theorem lw_p5 : lw_okq (⟨"StageMachine$Player", "nextNumber", "()I"⟩, 6) := ⟨⟨by decide +kernel, by decide +kernel⟩, List.mem_of_getElem? (i := 20) (by decide +kernel), List.mem_of_getElem? (i := 241) (by decide +kernel), List.mem_of_getElem? (i := 242) (by decide +kernel)⟩
theorem lw_p6 : lw_okq (⟨"StageMachine$Player", "nextPair", "()I"⟩, 6) := ⟨⟨by decide +kernel, by decide +kernel⟩, List.mem_of_getElem? (i := 20) (by decide +kernel), List.mem_of_getElem? (i := 245) (by decide +kernel), List.mem_of_getElem? (i := 246) (by decide +kernel)⟩
theorem lw_p7 : lw_okq (⟨"StageMachine$Player", "store", "(II)V"⟩, 6) := ⟨⟨by decide +kernel, by decide +kernel⟩, List.mem_of_getElem? (i := 20) (by decide +kernel), List.mem_of_getElem? (i := 253) (by decide +kernel), List.mem_of_getElem? (i := 254) (by decide +kernel)⟩
theorem lw_p8 : lw_okq (⟨"StageMachine$Player", "nextAddress", "()I"⟩, 6) := ⟨⟨by decide +kernel, by decide +kernel⟩, List.mem_of_getElem? (i := 20) (by decide +kernel), List.mem_of_getElem? (i := 257) (by decide +kernel), List.mem_of_getElem? (i := 258) (by decide +kernel)⟩
theorem lw_p9 : lw_okq (⟨"StageMachine$Player", "callAddress", "(LStageMachine$Channel;)V"⟩, 6) := ⟨⟨by decide +kernel, by decide +kernel⟩, List.mem_of_getElem? (i := 20) (by decide +kernel), List.mem_of_getElem? (i := 261) (by decide +kernel), List.mem_of_getElem? (i := 262) (by decide +kernel)⟩
theorem lw_p10 : lw_okq (⟨"StageMachine$Player", "fail", "(LStageMachine$Channel;I)V"⟩, 6) := ⟨⟨by decide +kernel, by decide +kernel⟩, List.mem_of_getElem? (i := 20) (by decide +kernel), List.mem_of_getElem? (i := 269) (by decide +kernel), List.mem_of_getElem? (i := 270) (by decide +kernel)⟩
theorem lw_p11 : lw_okq (⟨"StageMachine$Player", "end", "()V"⟩, 6) := ⟨⟨by decide +kernel, by decide +kernel⟩, List.mem_of_getElem? (i := 20) (by decide +kernel), List.mem_of_getElem? (i := 273) (by decide +kernel), List.mem_of_getElem? (i := 274) (by decide +kernel)⟩
theorem lw_p12 : lw_okq (⟨"StageMachine$Player", "comeBack", "(LStageMachine$Channel;)V"⟩, 6) := ⟨⟨by decide +kernel, by decide +kernel⟩, List.mem_of_getElem? (i := 20) (by decide +kernel), List.mem_of_getElem? (i := 277) (by decide +kernel), List.mem_of_getElem? (i := 278) (by decide +kernel)⟩
theorem lw_p13 : lw_okq (⟨"StageMachine$Player", "loop", "()V"⟩, 6) := ⟨⟨by decide +kernel, by decide +kernel⟩, List.mem_of_getElem? (i := 20) (by decide +kernel), List.mem_of_getElem? (i := 285) (by decide +kernel), List.mem_of_getElem? (i := 286) (by decide +kernel)⟩
theorem lw_p14 : lw_okq (⟨"StageMachine$Player", "jumpIf", "(LStageMachine$Channel;)V"⟩, 6) := ⟨⟨by decide +kernel, by decide +kernel⟩, List.mem_of_getElem? (i := 20) (by decide +kernel), List.mem_of_getElem? (i := 289) (by decide +kernel), List.mem_of_getElem? (i := 290) (by decide +kernel)⟩
theorem lw_p15 : lw_okq (⟨"StageMachine$Player", "nextCompared", "(I)I"⟩, 6) := ⟨⟨by decide +kernel, by decide +kernel⟩, List.mem_of_getElem? (i := 20) (by decide +kernel), List.mem_of_getElem? (i := 293) (by decide +kernel), List.mem_of_getElem? (i := 294) (by decide +kernel)⟩
def lw_privs_1 : List (MethodName × Nat) := [(⟨"StageMachine", "bytesOf", "(I)LStageMachine$Bytes;"⟩, 3), (⟨"StageMachine$Player", "doInstruction", "(LStageMachine$Channel;)V"⟩, 6), (⟨"StageMachine$Player", "nextByte", "()I"⟩, 6), (⟨"StageMachine$Player", "compute", "(I)V"⟩, 6), (⟨"StageMachine$Player", "nextVariable", "()I"⟩, 6), (⟨"StageMachine$Player", "nextNumber", "()I"⟩, 6), (⟨"StageMachine$Player", "nextPair", "()I"⟩, 6), (⟨"StageMachine$Player", "store", "(II)V"⟩, 6), (⟨"StageMachine$Player", "nextAddress", "()I"⟩, 6), (⟨"StageMachine$Player", "callAddress", "(LStageMachine$Channel;)V"⟩, 6), (⟨"StageMachine$Player", "fail", "(LStageMachine$Channel;I)V"⟩, 6), (⟨"StageMachine$Player", "end", "()V"⟩, 6), (⟨"StageMachine$Player", "comeBack", "(LStageMachine$Channel;)V"⟩, 6), (⟨"StageMachine$Player", "loop", "()V"⟩, 6), (⟨"StageMachine$Player", "jumpIf", "(LStageMachine$Channel;)V"⟩, 6), (⟨"StageMachine$Player", "nextCompared", "(I)I"⟩, 6)]
theorem lw_r1 : ∀ q ∈ lw_privs_1, lw_okq q := List.forall_mem_cons.mpr ⟨lw_p0, List.forall_mem_cons.mpr ⟨lw_p1, List.forall_mem_cons.mpr ⟨lw_p2, List.forall_mem_cons.mpr ⟨lw_p3, List.forall_mem_cons.mpr ⟨lw_p4, List.forall_mem_cons.mpr ⟨lw_p5, List.forall_mem_cons.mpr ⟨lw_p6, List.forall_mem_cons.mpr ⟨lw_p7, List.forall_mem_cons.mpr ⟨lw_p8, List.forall_mem_cons.mpr ⟨lw_p9, List.forall_mem_cons.mpr ⟨lw_p10, List.forall_mem_cons.mpr ⟨lw_p11, List.forall_mem_cons.mpr ⟨lw_p12, List.forall_mem_cons.mpr ⟨lw_p13, List.forall_mem_cons.mpr ⟨lw_p14, List.forall_mem_cons.mpr ⟨lw_p15, fun _ h => absurd h List.not_mem_nil⟩⟩⟩⟩⟩⟩⟩⟩⟩⟩⟩⟩⟩⟩⟩⟩
theorem lw_p16 : lw_okq (⟨"StageMachine$Player", "startOther", "()V"⟩, 6) := ⟨⟨by decide +kernel, by decide +kernel⟩, List.mem_of_getElem? (i := 20) (by decide +kernel), List.mem_of_getElem? (i := 300) (by decide +kernel), List.mem_of_getElem? (i := 301) (by decide +kernel)⟩
theorem lw_p17 : lw_okq (⟨"StageMachine$Player", "askOfEach", "(LStageMachine$Channel;)V"⟩, 6) := ⟨⟨by decide +kernel, by decide +kernel⟩, List.mem_of_getElem? (i := 20) (by decide +kernel), List.mem_of_getElem? (i := 304) (by decide +kernel), List.mem_of_getElem? (i := 305) (by decide +kernel)⟩
theorem lw_p18 : lw_okq (⟨"StageMachine$Player", "handlePages", "(I)V"⟩, 6) := ⟨⟨by decide +kernel, by decide +kernel⟩, List.mem_of_getElem? (i := 20) (by decide +kernel), List.mem_of_getElem? (i := 308) (by decide +kernel), List.mem_of_getElem? (i := 309) (by decide +kernel)⟩
theorem lw_p19 : lw_okq (⟨"StageMachine$Player", "draw", "()V"⟩, 6) := ⟨⟨by decide +kernel, by decide +kernel⟩, List.mem_of_getElem? (i := 20) (by decide +kernel), List.mem_of_getElem? (i := 333) (by decide +kernel), List.mem_of_getElem? (i := 334) (by decide +kernel)⟩
theorem lw_p20 : lw_okq (⟨"StageMachine$Painter", "drawShape", "(IIIIII)V"⟩, 8) := ⟨⟨by decide +kernel, by decide +kernel⟩, List.mem_of_getElem? (i := 39) (by decide +kernel), List.mem_of_getElem? (i := 337) (by decide +kernel), List.mem_of_getElem? (i := 338) (by decide +kernel)⟩
theorem lw_p21 : lw_okq (⟨"StageMachine$Painter", "placePairs", "(IIII)V"⟩, 8) := ⟨⟨by decide +kernel, by decide +kernel⟩, List.mem_of_getElem? (i := 39) (by decide +kernel), List.mem_of_getElem? (i := 342) (by decide +kernel), List.mem_of_getElem? (i := 343) (by decide +kernel)⟩
theorem lw_p22 : lw_okq (⟨"StageMachine$Painter", "drawPolygon", "(II)V"⟩, 8) := ⟨⟨by decide +kernel, by decide +kernel⟩, List.mem_of_getElem? (i := 39) (by decide +kernel), List.mem_of_getElem? (i := 352) (by decide +kernel), List.mem_of_getElem? (i := 353) (by decide +kernel)⟩
theorem lw_p23 : lw_okq (⟨"StageMachine$Painter", "drawRows", "(III)V"⟩, 8) := ⟨⟨by decide +kernel, by decide +kernel⟩, List.mem_of_getElem? (i := 39) (by decide +kernel), List.mem_of_getElem? (i := 356) (by decide +kernel), List.mem_of_getElem? (i := 357) (by decide +kernel)⟩
theorem lw_p24 : lw_okq (⟨"StageMachine$Painter", "drawGroup", "(IIIIII)V"⟩, 8) := ⟨⟨by decide +kernel, by decide +kernel⟩, List.mem_of_getElem? (i := 39) (by decide +kernel), List.mem_of_getElem? (i := 379) (by decide +kernel), List.mem_of_getElem? (i := 380) (by decide +kernel)⟩
theorem lw_p25 : lw_okq (⟨"StageMachineModel", "settle", "()V"⟩, 33) := ⟨⟨by decide +kernel, by decide +kernel⟩, List.mem_of_getElem? (i := 402) (by decide +kernel), List.mem_of_getElem? (i := 539) (by decide +kernel), List.mem_of_getElem? (i := 540) (by decide +kernel)⟩
theorem lw_p26 : lw_okq (⟨"StageMachineModel", "turn", "(II)V"⟩, 33) := ⟨⟨by decide +kernel, by decide +kernel⟩, List.mem_of_getElem? (i := 402) (by decide +kernel), List.mem_of_getElem? (i := 543) (by decide +kernel), List.mem_of_getElem? (i := 544) (by decide +kernel)⟩
theorem lw_p27 : lw_okq (⟨"StageMachineModel", "instruct", "()V"⟩, 33) := ⟨⟨by decide +kernel, by decide +kernel⟩, List.mem_of_getElem? (i := 402) (by decide +kernel), List.mem_of_getElem? (i := 547) (by decide +kernel), List.mem_of_getElem? (i := 548) (by decide +kernel)⟩
theorem lw_p28 : lw_okq (⟨"StageMachineModel", "next", "()I"⟩, 33) := ⟨⟨by decide +kernel, by decide +kernel⟩, List.mem_of_getElem? (i := 402) (by decide +kernel), List.mem_of_getElem? (i := 551) (by decide +kernel), List.mem_of_getElem? (i := 552) (by decide +kernel)⟩
theorem lw_p29 : lw_okq (⟨"StageMachineModel", "place", "()I"⟩, 33) := ⟨⟨by decide +kernel, by decide +kernel⟩, List.mem_of_getElem? (i := 402) (by decide +kernel), List.mem_of_getElem? (i := 555) (by decide +kernel), List.mem_of_getElem? (i := 556) (by decide +kernel)⟩
theorem lw_p30 : lw_okq (⟨"StageMachineModel", "two", "()I"⟩, 33) := ⟨⟨by decide +kernel, by decide +kernel⟩, List.mem_of_getElem? (i := 402) (by decide +kernel), List.mem_of_getElem? (i := 559) (by decide +kernel), List.mem_of_getElem? (i := 560) (by decide +kernel)⟩
theorem lw_p31 : lw_okq (⟨"StageMachineModel", "call", "()V"⟩, 33) := ⟨⟨by decide +kernel, by decide +kernel⟩, List.mem_of_getElem? (i := 402) (by decide +kernel), List.mem_of_getElem? (i := 563) (by decide +kernel), List.mem_of_getElem? (i := 564) (by decide +kernel)⟩
def lw_privs_2 : List (MethodName × Nat) := [(⟨"StageMachine$Player", "startOther", "()V"⟩, 6), (⟨"StageMachine$Player", "askOfEach", "(LStageMachine$Channel;)V"⟩, 6), (⟨"StageMachine$Player", "handlePages", "(I)V"⟩, 6), (⟨"StageMachine$Player", "draw", "()V"⟩, 6), (⟨"StageMachine$Painter", "drawShape", "(IIIIII)V"⟩, 8), (⟨"StageMachine$Painter", "placePairs", "(IIII)V"⟩, 8), (⟨"StageMachine$Painter", "drawPolygon", "(II)V"⟩, 8), (⟨"StageMachine$Painter", "drawRows", "(III)V"⟩, 8), (⟨"StageMachine$Painter", "drawGroup", "(IIIIII)V"⟩, 8), (⟨"StageMachineModel", "settle", "()V"⟩, 33), (⟨"StageMachineModel", "turn", "(II)V"⟩, 33), (⟨"StageMachineModel", "instruct", "()V"⟩, 33), (⟨"StageMachineModel", "next", "()I"⟩, 33), (⟨"StageMachineModel", "place", "()I"⟩, 33), (⟨"StageMachineModel", "two", "()I"⟩, 33), (⟨"StageMachineModel", "call", "()V"⟩, 33)]
theorem lw_r2 : ∀ q ∈ lw_privs_2, lw_okq q := List.forall_mem_cons.mpr ⟨lw_p16, List.forall_mem_cons.mpr ⟨lw_p17, List.forall_mem_cons.mpr ⟨lw_p18, List.forall_mem_cons.mpr ⟨lw_p19, List.forall_mem_cons.mpr ⟨lw_p20, List.forall_mem_cons.mpr ⟨lw_p21, List.forall_mem_cons.mpr ⟨lw_p22, List.forall_mem_cons.mpr ⟨lw_p23, List.forall_mem_cons.mpr ⟨lw_p24, List.forall_mem_cons.mpr ⟨lw_p25, List.forall_mem_cons.mpr ⟨lw_p26, List.forall_mem_cons.mpr ⟨lw_p27, List.forall_mem_cons.mpr ⟨lw_p28, List.forall_mem_cons.mpr ⟨lw_p29, List.forall_mem_cons.mpr ⟨lw_p30, List.forall_mem_cons.mpr ⟨lw_p31, fun _ h => absurd h List.not_mem_nil⟩⟩⟩⟩⟩⟩⟩⟩⟩⟩⟩⟩⟩⟩⟩⟩
theorem lw_p32 : lw_okq (⟨"StageMachineModel", "fails", "(I)V"⟩, 33) := ⟨⟨by decide +kernel, by decide +kernel⟩, List.mem_of_getElem? (i := 402) (by decide +kernel), List.mem_of_getElem? (i := 567) (by decide +kernel), List.mem_of_getElem? (i := 568) (by decide +kernel)⟩
theorem lw_p33 : lw_okq (⟨"StageMachineModel", "back", "()V"⟩, 33) := ⟨⟨by decide +kernel, by decide +kernel⟩, List.mem_of_getElem? (i := 402) (by decide +kernel), List.mem_of_getElem? (i := 571) (by decide +kernel), List.mem_of_getElem? (i := 572) (by decide +kernel)⟩
theorem lw_p34 : lw_okq (⟨"StageMachineModel", "loop", "()V"⟩, 33) := ⟨⟨by decide +kernel, by decide +kernel⟩, List.mem_of_getElem? (i := 402) (by decide +kernel), List.mem_of_getElem? (i := 575) (by decide +kernel), List.mem_of_getElem? (i := 576) (by decide +kernel)⟩
theorem lw_p35 : lw_okq (⟨"StageMachineModel", "name", "()I"⟩, 33) := ⟨⟨by decide +kernel, by decide +kernel⟩, List.mem_of_getElem? (i := 402) (by decide +kernel), List.mem_of_getElem? (i := 579) (by decide +kernel), List.mem_of_getElem? (i := 580) (by decide +kernel)⟩
theorem lw_p36 : lw_okq (⟨"StageMachineModel", "when", "()V"⟩, 33) := ⟨⟨by decide +kernel, by decide +kernel⟩, List.mem_of_getElem? (i := 402) (by decide +kernel), List.mem_of_getElem? (i := 583) (by decide +kernel), List.mem_of_getElem? (i := 584) (by decide +kernel)⟩
theorem lw_p37 : lw_okq (⟨"StageMachineModel", "signed", "()I"⟩, 33) := ⟨⟨by decide +kernel, by decide +kernel⟩, List.mem_of_getElem? (i := 402) (by decide +kernel), List.mem_of_getElem? (i := 587) (by decide +kernel), List.mem_of_getElem? (i := 588) (by decide +kernel)⟩
theorem lw_p38 : lw_okq (⟨"StageMachineModel", "start", "()V"⟩, 33) := ⟨⟨by decide +kernel, by decide +kernel⟩, List.mem_of_getElem? (i := 402) (by decide +kernel), List.mem_of_getElem? (i := 594) (by decide +kernel), List.mem_of_getElem? (i := 595) (by decide +kernel)⟩
theorem lw_p39 : lw_okq (⟨"StageMachineModel", "each", "()V"⟩, 33) := ⟨⟨by decide +kernel, by decide +kernel⟩, List.mem_of_getElem? (i := 402) (by decide +kernel), List.mem_of_getElem? (i := 598) (by decide +kernel), List.mem_of_getElem? (i := 599) (by decide +kernel)⟩
theorem lw_p40 : lw_okq (⟨"StageMachineModel", "page", "()I"⟩, 33) := ⟨⟨by decide +kernel, by decide +kernel⟩, List.mem_of_getElem? (i := 402) (by decide +kernel), List.mem_of_getElem? (i := 602) (by decide +kernel), List.mem_of_getElem? (i := 603) (by decide +kernel)⟩
theorem lw_p41 : lw_okq (⟨"StageMachineModel", "fill", "()V"⟩, 33) := ⟨⟨by decide +kernel, by decide +kernel⟩, List.mem_of_getElem? (i := 402) (by decide +kernel), List.mem_of_getElem? (i := 606) (by decide +kernel), List.mem_of_getElem? (i := 607) (by decide +kernel)⟩
theorem lw_p42 : lw_okq (⟨"StageMachineModel", "copy", "()V"⟩, 33) := ⟨⟨by decide +kernel, by decide +kernel⟩, List.mem_of_getElem? (i := 402) (by decide +kernel), List.mem_of_getElem? (i := 610) (by decide +kernel), List.mem_of_getElem? (i := 611) (by decide +kernel)⟩
theorem lw_p43 : lw_okq (⟨"StageMachineModel", "draw", "()V"⟩, 33) := ⟨⟨by decide +kernel, by decide +kernel⟩, List.mem_of_getElem? (i := 402) (by decide +kernel), List.mem_of_getElem? (i := 614) (by decide +kernel), List.mem_of_getElem? (i := 615) (by decide +kernel)⟩
theorem lw_p44 : lw_okq (⟨"StageMachineModel", "lay", "(IIIII)V"⟩, 33) := ⟨⟨by decide +kernel, by decide +kernel⟩, List.mem_of_getElem? (i := 402) (by decide +kernel), List.mem_of_getElem? (i := 618) (by decide +kernel), List.mem_of_getElem? (i := 619) (by decide +kernel)⟩
theorem lw_p45 : lw_okq (⟨"StageMachineModel", "begin", "(I)V"⟩, 33) := ⟨⟨by decide +kernel, by decide +kernel⟩, List.mem_of_getElem? (i := 402) (by decide +kernel), List.mem_of_getElem? (i := 622) (by decide +kernel), List.mem_of_getElem? (i := 623) (by decide +kernel)⟩
theorem lw_p46 : lw_okq (⟨"StageMachineModel", "read", "()I"⟩, 33) := ⟨⟨by decide +kernel, by decide +kernel⟩, List.mem_of_getElem? (i := 402) (by decide +kernel), List.mem_of_getElem? (i := 626) (by decide +kernel), List.mem_of_getElem? (i := 627) (by decide +kernel)⟩
theorem lw_p47 : lw_okq (⟨"StageMachineModel", "polygon", "(III)V"⟩, 33) := ⟨⟨by decide +kernel, by decide +kernel⟩, List.mem_of_getElem? (i := 402) (by decide +kernel), List.mem_of_getElem? (i := 630) (by decide +kernel), List.mem_of_getElem? (i := 631) (by decide +kernel)⟩
def lw_privs_3 : List (MethodName × Nat) := [(⟨"StageMachineModel", "fails", "(I)V"⟩, 33), (⟨"StageMachineModel", "back", "()V"⟩, 33), (⟨"StageMachineModel", "loop", "()V"⟩, 33), (⟨"StageMachineModel", "name", "()I"⟩, 33), (⟨"StageMachineModel", "when", "()V"⟩, 33), (⟨"StageMachineModel", "signed", "()I"⟩, 33), (⟨"StageMachineModel", "start", "()V"⟩, 33), (⟨"StageMachineModel", "each", "()V"⟩, 33), (⟨"StageMachineModel", "page", "()I"⟩, 33), (⟨"StageMachineModel", "fill", "()V"⟩, 33), (⟨"StageMachineModel", "copy", "()V"⟩, 33), (⟨"StageMachineModel", "draw", "()V"⟩, 33), (⟨"StageMachineModel", "lay", "(IIIII)V"⟩, 33), (⟨"StageMachineModel", "begin", "(I)V"⟩, 33), (⟨"StageMachineModel", "read", "()I"⟩, 33), (⟨"StageMachineModel", "polygon", "(III)V"⟩, 33)]
theorem lw_r3 : ∀ q ∈ lw_privs_3, lw_okq q := List.forall_mem_cons.mpr ⟨lw_p32, List.forall_mem_cons.mpr ⟨lw_p33, List.forall_mem_cons.mpr ⟨lw_p34, List.forall_mem_cons.mpr ⟨lw_p35, List.forall_mem_cons.mpr ⟨lw_p36, List.forall_mem_cons.mpr ⟨lw_p37, List.forall_mem_cons.mpr ⟨lw_p38, List.forall_mem_cons.mpr ⟨lw_p39, List.forall_mem_cons.mpr ⟨lw_p40, List.forall_mem_cons.mpr ⟨lw_p41, List.forall_mem_cons.mpr ⟨lw_p42, List.forall_mem_cons.mpr ⟨lw_p43, List.forall_mem_cons.mpr ⟨lw_p44, List.forall_mem_cons.mpr ⟨lw_p45, List.forall_mem_cons.mpr ⟨lw_p46, List.forall_mem_cons.mpr ⟨lw_p47, fun _ h => absurd h List.not_mem_nil⟩⟩⟩⟩⟩⟩⟩⟩⟩⟩⟩⟩⟩⟩⟩⟩
theorem lw_p48 : lw_okq (⟨"StageMachineModel", "scaled", "(I)I"⟩, 33) := ⟨⟨by decide +kernel, by decide +kernel⟩, List.mem_of_getElem? (i := 402) (by decide +kernel), List.mem_of_getElem? (i := 634) (by decide +kernel), List.mem_of_getElem? (i := 635) (by decide +kernel)⟩
theorem lw_p49 : lw_okq (⟨"StageMachineModel", "line", "(III)V"⟩, 33) := ⟨⟨by decide +kernel, by decide +kernel⟩, List.mem_of_getElem? (i := 402) (by decide +kernel), List.mem_of_getElem? (i := 643) (by decide +kernel), List.mem_of_getElem? (i := 644) (by decide +kernel)⟩
theorem lw_p50 : lw_okq (⟨"StageMachineModel", "group", "(IIII)V"⟩, 33) := ⟨⟨by decide +kernel, by decide +kernel⟩, List.mem_of_getElem? (i := 402) (by decide +kernel), List.mem_of_getElem? (i := 652) (by decide +kernel), List.mem_of_getElem? (i := 653) (by decide +kernel)⟩
theorem lw_p51 : lw_okq (⟨"StageMachineModel", "swap", "(II)V"⟩, 33) := ⟨⟨by decide +kernel, by decide +kernel⟩, List.mem_of_getElem? (i := 402) (by decide +kernel), List.mem_of_getElem? (i := 656) (by decide +kernel), List.mem_of_getElem? (i := 657) (by decide +kernel)⟩
theorem lw_p52 : lw_okq (⟨"StageMachineModel", "reckon", "(I)V"⟩, 33) := ⟨⟨by decide +kernel, by decide +kernel⟩, List.mem_of_getElem? (i := 402) (by decide +kernel), List.mem_of_getElem? (i := 660) (by decide +kernel), List.mem_of_getElem? (i := 661) (by decide +kernel)⟩
def lw_privs_4 : List (MethodName × Nat) := [(⟨"StageMachineModel", "scaled", "(I)I"⟩, 33), (⟨"StageMachineModel", "line", "(III)V"⟩, 33), (⟨"StageMachineModel", "group", "(IIII)V"⟩, 33), (⟨"StageMachineModel", "swap", "(II)V"⟩, 33), (⟨"StageMachineModel", "reckon", "(I)V"⟩, 33)]
theorem lw_r4 : ∀ q ∈ lw_privs_4, lw_okq q := List.forall_mem_cons.mpr ⟨lw_p48, List.forall_mem_cons.mpr ⟨lw_p49, List.forall_mem_cons.mpr ⟨lw_p50, List.forall_mem_cons.mpr ⟨lw_p51, List.forall_mem_cons.mpr ⟨lw_p52, fun _ h => absurd h List.not_mem_nil⟩⟩⟩⟩⟩
def lw_privs : List (MethodName × Nat) := lw_privs_1 ++ (lw_privs_2 ++ (lw_privs_3 ++ (lw_privs_4)))
def lw_tbl : List Cond := k2_sels lw_privs ++ tables_1
theorem lw_privs_ok : ∀ q ∈ lw_privs, lw_okq q := by
  show ∀ q ∈ lw_privs_1 ++ (lw_privs_2 ++ (lw_privs_3 ++ (lw_privs_4))), lw_okq q
  exact List.forall_mem_append.mpr ⟨lw_r1, List.forall_mem_append.mpr ⟨lw_r2, List.forall_mem_append.mpr ⟨lw_r3, lw_r4⟩⟩⟩

def gw_isN : Cond → Bool
  | .fieldLinkNest .. => true
  | .methodLinkNest .. => true
  | _ => false
theorem gw_isN_tab {w : Cond} (h : gw_isN w = true) : w.onTables = true := by
  cases w <;> first | rfl | (simp [gw_isN] at h; done)
theorem gw_isN_warm {w : Cond} {s U : State} (h : gw_isN w = true) (hW : s.WarmedH U.vm) (hZ : va_Nw w s) : va_Nw w U := by
  cases w <;> first | (simp [gw_isN] at h; done) | exact va_Nw.warmF hW hZ | exact va_Nw.warmM hW hZ
def gTs : List Cond := lw_tbl.filter (fun w => goodWord w || gw_isN w)
theorem gTs_ok : ∀ w ∈ gTs, goodWord w = true ∨ gw_isN w = true := by
  intro w hw
  have h := (List.mem_filter.mp hw).2
  simpa using h
theorem tw_a {w : Cond} (h : w ∈ tables_1_1) (hg : (goodWord w || gw_isN w) = true) : w ∈ gTs := List.mem_filter.mpr ⟨List.mem_append_right _ (List.mem_append_left _ h), hg⟩
theorem tw_b {w : Cond} (h : w ∈ tables_1_2) (hg : (goodWord w || gw_isN w) = true) : w ∈ gTs := List.mem_filter.mpr ⟨List.mem_append_right _ (List.mem_append_right _ (List.mem_append_left _ h)), hg⟩
theorem tw_c {w : Cond} (h : w ∈ tables_1_3) (hg : (goodWord w || gw_isN w) = true) : w ∈ gTs := List.mem_filter.mpr ⟨List.mem_append_right _ (List.mem_append_right _ (List.mem_append_right _ h)), hg⟩
theorem tw_p {w : Cond} (h : w ∈ k2_sels lw_privs) (hg : (goodWord w || gw_isN w) = true) : w ∈ gTs := List.mem_filter.mpr ⟨List.mem_append_left _ h, hg⟩
theorem tw_0 : Cond.initialized "StageMachineLaw" ∈ gTs := tw_a (List.mem_of_getElem? (i := 0) rfl) rfl
theorem tw_1 : Cond.initialized "StageMachine" ∈ gTs := tw_a (List.mem_of_getElem? (i := 1) rfl) rfl
theorem tw_2 : Cond.initialized "StageMachine$Player" ∈ gTs := tw_a (List.mem_of_getElem? (i := 2) rfl) rfl
theorem tw_3 : Cond.initialized "StageMachine$Bytes" ∈ gTs := tw_a (List.mem_of_getElem? (i := 3) rfl) rfl
theorem tw_4 : Cond.initialized "StageMachine$Painter" ∈ gTs := tw_a (List.mem_of_getElem? (i := 4) rfl) rfl
theorem tw_5 : Cond.initialized "StageMachine$Pages" ∈ gTs := tw_a (List.mem_of_getElem? (i := 5) rfl) rfl
theorem tw_6 : Cond.initialized "StageMachine$Channel" ∈ gTs := tw_a (List.mem_of_getElem? (i := 6) rfl) rfl
theorem tw_7 : Cond.initialized "StageMachineModel" ∈ gTs := tw_a (List.mem_of_getElem? (i := 7) rfl) rfl
theorem tw_8 : Cond.initialized "java/util/Arrays" ∈ gTs := tw_a (List.mem_of_getElem? (i := 8) rfl) rfl
theorem tw_9 : Cond.initialized "java/lang/System" ∈ gTs := tw_a (List.mem_of_getElem? (i := 9) rfl) rfl
theorem tw_10 : Cond.initialized "java/lang/Math" ∈ gTs := tw_a (List.mem_of_getElem? (i := 10) rfl) rfl
theorem tw_11 : Cond.classLink "StageMachineLaw" 7 "StageMachine" ∈ gTs := tw_a (List.mem_of_getElem? (i := 11) rfl) rfl
theorem tw_12 : Cond.instantiable "StageMachine" 3 ∈ gTs := tw_a (List.mem_of_getElem? (i := 12) rfl) rfl
theorem tw_13 : Cond.methodLink "StageMachineLaw" 9 ⟨"StageMachine", "<init>", "()V"⟩ ∈ gTs := tw_a (List.mem_of_getElem? (i := 13) rfl) rfl
theorem tw_14 : Cond.instanceMethod ⟨"StageMachine", "<init>", "()V"⟩ ∈ gTs := tw_a (List.mem_of_getElem? (i := 14) rfl) rfl
theorem tw_15 : Cond.code ⟨"StageMachine", "<init>", "()V"⟩ prog_1_method_1_code 1 none ∈ gTs := tw_a (List.mem_of_getElem? (i := 15) rfl) rfl
theorem tw_16 : Cond.methodLink "StageMachine" 3 ⟨"java/lang/Object", "<init>", "()V"⟩ ∈ gTs := tw_a (List.mem_of_getElem? (i := 16) rfl) rfl
theorem tw_17 : Cond.instanceMethod ⟨"java/lang/Object", "<init>", "()V"⟩ ∈ gTs := tw_a (List.mem_of_getElem? (i := 17) rfl) rfl
theorem tw_18 : Cond.code ⟨"java/lang/Object", "<init>", "()V"⟩ object_method_1_code 1 none ∈ gTs := tw_a (List.mem_of_getElem? (i := 18) rfl) rfl
theorem tw_19 : Cond.classLink "StageMachine" 16 "StageMachine$Player" ∈ gTs := tw_a (List.mem_of_getElem? (i := 19) rfl) rfl
theorem tw_20 : Cond.instantiable "StageMachine$Player" 6 ∈ gTs := tw_a (List.mem_of_getElem? (i := 20) rfl) rfl
theorem tw_21 : Cond.methodLink "StageMachine" 18 ⟨"StageMachine$Player", "<init>", "()V"⟩ ∈ gTs := tw_a (List.mem_of_getElem? (i := 21) rfl) rfl
theorem tw_22 : Cond.instanceMethod ⟨"StageMachine$Player", "<init>", "()V"⟩ ∈ gTs := tw_a (List.mem_of_getElem? (i := 22) rfl) rfl
theorem tw_23 : Cond.code ⟨"StageMachine$Player", "<init>", "()V"⟩ prog_6_method_1_code 2 none ∈ gTs := tw_a (List.mem_of_getElem? (i := 23) rfl) rfl
theorem tw_24 : Cond.methodLink "StageMachine$Player" 3 ⟨"java/lang/Object", "<init>", "()V"⟩ ∈ gTs := tw_a (List.mem_of_getElem? (i := 24) rfl) rfl
theorem tw_25 : Cond.classLink "StageMachine$Player" 9 "StageMachine$Bytes" ∈ gTs := tw_a (List.mem_of_getElem? (i := 25) rfl) rfl
theorem tw_26 : Cond.instantiable "StageMachine$Bytes" 1 ∈ gTs := tw_a (List.mem_of_getElem? (i := 26) rfl) rfl
theorem tw_27 : Cond.methodLinkNest "StageMachine$Player" 11 ⟨"StageMachine$Bytes", "<init>", "()V"⟩ "StageMachine" ∈ gTs := tw_a (List.mem_of_getElem? (i := 27) rfl) rfl
theorem tw_28 : Cond.instanceMethod ⟨"StageMachine$Bytes", "<init>", "()V"⟩ ∈ gTs := tw_a (List.mem_of_getElem? (i := 28) rfl) rfl
theorem tw_29 : Cond.code ⟨"StageMachine$Bytes", "<init>", "()V"⟩ prog_2_method_1_code 1 none ∈ gTs := tw_a (List.mem_of_getElem? (i := 29) rfl) rfl
theorem tw_30 : Cond.methodLink "StageMachine$Bytes" 3 ⟨"java/lang/Object", "<init>", "()V"⟩ ∈ gTs := tw_a (List.mem_of_getElem? (i := 30) rfl) rfl
theorem tw_31 : Cond.fieldLink "StageMachine$Bytes" 9 "StageMachine$Bytes" "bytes" "[I" ∈ gTs := tw_a (List.mem_of_getElem? (i := 31) rfl) rfl
theorem tw_32 : Cond.laysFinal "StageMachine$Bytes" "StageMachine$Bytes" "bytes" "[I" ∈ gTs := tw_a (List.mem_of_getElem? (i := 32) rfl) rfl
theorem tw_34 : Cond.superclass "StageMachine$Bytes" "java/lang/Object" ∈ gTs := tw_a (List.mem_of_getElem? (i := 34) rfl) rfl
theorem tw_35 : Cond.arrayClass .int ∈ gTs := tw_a (List.mem_of_getElem? (i := 35) rfl) rfl
theorem tw_36 : Cond.classLink "StageMachine$Player" 22 "StageMachine$Channel" ∈ gTs := tw_a (List.mem_of_getElem? (i := 36) rfl) rfl
theorem tw_38 : Cond.classLink "StageMachine$Player" 28 "StageMachine$Painter" ∈ gTs := tw_a (List.mem_of_getElem? (i := 38) rfl) rfl
theorem tw_39 : Cond.instantiable "StageMachine$Painter" 8 ∈ gTs := tw_a (List.mem_of_getElem? (i := 39) rfl) rfl
theorem tw_40 : Cond.methodLinkNest "StageMachine$Player" 30 ⟨"StageMachine$Painter", "<init>", "()V"⟩ "StageMachine" ∈ gTs := tw_a (List.mem_of_getElem? (i := 40) rfl) rfl
theorem tw_41 : Cond.instanceMethod ⟨"StageMachine$Painter", "<init>", "()V"⟩ ∈ gTs := tw_a (List.mem_of_getElem? (i := 41) rfl) rfl
theorem tw_42 : Cond.code ⟨"StageMachine$Painter", "<init>", "()V"⟩ prog_5_method_1_code 1 none ∈ gTs := tw_a (List.mem_of_getElem? (i := 42) rfl) rfl
theorem tw_43 : Cond.methodLink "StageMachine$Painter" 3 ⟨"java/lang/Object", "<init>", "()V"⟩ ∈ gTs := tw_a (List.mem_of_getElem? (i := 43) rfl) rfl
theorem tw_44 : Cond.classLink "StageMachine$Painter" 9 "StageMachine$Bytes" ∈ gTs := tw_a (List.mem_of_getElem? (i := 44) rfl) rfl
theorem tw_45 : Cond.methodLinkNest "StageMachine$Painter" 11 ⟨"StageMachine$Bytes", "<init>", "()V"⟩ "StageMachine" ∈ gTs := tw_a (List.mem_of_getElem? (i := 45) rfl) rfl
theorem tw_46 : Cond.classLink "StageMachine$Painter" 18 "StageMachine$Pages" ∈ gTs := tw_a (List.mem_of_getElem? (i := 46) rfl) rfl
theorem tw_47 : Cond.instantiable "StageMachine$Pages" 3 ∈ gTs := tw_a (List.mem_of_getElem? (i := 47) rfl) rfl
theorem tw_48 : Cond.methodLinkNest "StageMachine$Painter" 20 ⟨"StageMachine$Pages", "<init>", "()V"⟩ "StageMachine" ∈ gTs := tw_a (List.mem_of_getElem? (i := 48) rfl) rfl
theorem tw_49 : Cond.instanceMethod ⟨"StageMachine$Pages", "<init>", "()V"⟩ ∈ gTs := tw_a (List.mem_of_getElem? (i := 49) rfl) rfl
theorem tw_50 : Cond.code ⟨"StageMachine$Pages", "<init>", "()V"⟩ prog_4_method_1_code 1 none ∈ gTs := tw_a (List.mem_of_getElem? (i := 50) rfl) rfl
theorem tw_51 : Cond.methodLink "StageMachine$Pages" 3 ⟨"java/lang/Object", "<init>", "()V"⟩ ∈ gTs := tw_a (List.mem_of_getElem? (i := 51) rfl) rfl
theorem tw_52 : Cond.fieldLink "StageMachine$Pages" 11 "StageMachine$Pages" "pixels" "[B" ∈ gTs := tw_a (List.mem_of_getElem? (i := 52) rfl) rfl
theorem tw_53 : Cond.fieldLinkNest "StageMachine$Painter" 99 "StageMachine$Pages" "pixels" "[B" "StageMachine" ∈ gTs := tw_a (List.mem_of_getElem? (i := 53) rfl) rfl
theorem tw_54 : Cond.fieldLink "StageMachine$Pages" 15 "StageMachine$Pages" "working" "I" ∈ gTs := tw_a (List.mem_of_getElem? (i := 54) rfl) rfl
theorem tw_55 : Cond.fieldLinkNest "StageMachine" 97 "StageMachine$Pages" "working" "I" "StageMachine" ∈ gTs := tw_a (List.mem_of_getElem? (i := 55) rfl) rfl
theorem tw_56 : Cond.fieldLinkNest "StageMachine$Player" 133 "StageMachine$Pages" "working" "I" "StageMachine" ∈ gTs := tw_a (List.mem_of_getElem? (i := 56) rfl) rfl
theorem tw_57 : Cond.fieldLink "StageMachine$Pages" 19 "StageMachine$Pages" "shown" "I" ∈ gTs := tw_a (List.mem_of_getElem? (i := 57) rfl) rfl
theorem tw_58 : Cond.fieldLinkNest "StageMachine" 100 "StageMachine$Pages" "shown" "I" "StageMachine" ∈ gTs := tw_a (List.mem_of_getElem? (i := 58) rfl) rfl
theorem tw_59 : Cond.fieldLinkNest "StageMachine$Player" 142 "StageMachine$Pages" "shown" "I" "StageMachine" ∈ gTs := tw_a (List.mem_of_getElem? (i := 59) rfl) rfl
theorem tw_60 : Cond.laysFinal "StageMachine$Pages" "StageMachine$Pages" "pixels" "[B" ∈ gTs := tw_a (List.mem_of_getElem? (i := 60) rfl) rfl
theorem tw_62 : Cond.lays "StageMachine$Pages" "StageMachine$Pages" "working" "I" ∈ gTs := tw_a (List.mem_of_getElem? (i := 62) rfl) rfl
theorem tw_64 : Cond.lays "StageMachine$Pages" "StageMachine$Pages" "shown" "I" ∈ gTs := tw_a (List.mem_of_getElem? (i := 64) rfl) rfl
theorem tw_66 : Cond.superclass "StageMachine$Pages" "java/lang/Object" ∈ gTs := tw_a (List.mem_of_getElem? (i := 66) rfl) rfl
theorem tw_67 : Cond.arrayClass .byte ∈ gTs := tw_a (List.mem_of_getElem? (i := 67) rfl) rfl
theorem tw_68 : Cond.fieldLink "StageMachine$Painter" 12 "StageMachine$Painter" "shapes" "LStageMachine$Bytes;" ∈ gTs := tw_a (List.mem_of_getElem? (i := 68) rfl) rfl
theorem tw_69 : Cond.fieldLinkNest "StageMachine" 113 "StageMachine$Painter" "shapes" "LStageMachine$Bytes;" "StageMachine" ∈ gTs := tw_a (List.mem_of_getElem? (i := 69) rfl) rfl
theorem tw_70 : Cond.fieldLink "StageMachine$Painter" 21 "StageMachine$Painter" "pages" "LStageMachine$Pages;" ∈ gTs := tw_a (List.mem_of_getElem? (i := 70) rfl) rfl
theorem tw_71 : Cond.fieldLinkNest "StageMachine" 87 "StageMachine$Painter" "pages" "LStageMachine$Pages;" "StageMachine" ∈ gTs := tw_a (List.mem_of_getElem? (i := 71) rfl) rfl
theorem tw_72 : Cond.fieldLinkNest "StageMachine$Player" 124 "StageMachine$Painter" "pages" "LStageMachine$Pages;" "StageMachine" ∈ gTs := tw_a (List.mem_of_getElem? (i := 72) rfl) rfl
theorem tw_73 : Cond.fieldLink "StageMachine$Painter" 25 "StageMachine$Painter" "rightXs" "[I" ∈ gTs := tw_a (List.mem_of_getElem? (i := 73) rfl) rfl
theorem tw_74 : Cond.fieldLink "StageMachine$Painter" 29 "StageMachine$Painter" "leftXs" "[I" ∈ gTs := tw_a (List.mem_of_getElem? (i := 74) rfl) rfl
theorem tw_75 : Cond.fieldLink "StageMachine$Painter" 32 "StageMachine$Painter" "pairYs" "[I" ∈ gTs := tw_a (List.mem_of_getElem? (i := 75) rfl) rfl
theorem tw_76 : Cond.fieldLink "StageMachine$Painter" 35 "StageMachine$Painter" "begunInDraw" "I" ∈ gTs := tw_a (List.mem_of_getElem? (i := 76) rfl) rfl
theorem tw_77 : Cond.fieldLinkNest "StageMachine$Player" 145 "StageMachine$Painter" "begunInDraw" "I" "StageMachine" ∈ gTs := tw_a (List.mem_of_getElem? (i := 77) rfl) rfl
theorem tw_78 : Cond.fieldLink "StageMachine$Painter" 39 "StageMachine$Painter" "begunInFrame" "I" ∈ gTs := tw_a (List.mem_of_getElem? (i := 78) rfl) rfl
theorem tw_79 : Cond.fieldLinkNest "StageMachine" 106 "StageMachine$Painter" "begunInFrame" "I" "StageMachine" ∈ gTs := tw_a (List.mem_of_getElem? (i := 79) rfl) rfl
theorem tw_80 : Cond.fieldLink "StageMachine$Painter" 42 "StageMachine$Painter" "rowsInFrame" "I" ∈ gTs := tw_a (List.mem_of_getElem? (i := 80) rfl) rfl
theorem tw_81 : Cond.fieldLinkNest "StageMachine" 103 "StageMachine$Painter" "rowsInFrame" "I" "StageMachine" ∈ gTs := tw_a (List.mem_of_getElem? (i := 81) rfl) rfl
theorem tw_82 : Cond.laysFinal "StageMachine$Painter" "StageMachine$Painter" "shapes" "LStageMachine$Bytes;" ∈ gTs := tw_a (List.mem_of_getElem? (i := 82) rfl) rfl
theorem tw_84 : Cond.laysFinal "StageMachine$Painter" "StageMachine$Painter" "pages" "LStageMachine$Pages;" ∈ gTs := tw_a (List.mem_of_getElem? (i := 84) rfl) rfl
theorem tw_86 : Cond.laysFinal "StageMachine$Painter" "StageMachine$Painter" "rightXs" "[I" ∈ gTs := tw_a (List.mem_of_getElem? (i := 86) rfl) rfl
theorem tw_88 : Cond.laysFinal "StageMachine$Painter" "StageMachine$Painter" "leftXs" "[I" ∈ gTs := tw_a (List.mem_of_getElem? (i := 88) rfl) rfl
theorem tw_90 : Cond.laysFinal "StageMachine$Painter" "StageMachine$Painter" "pairYs" "[I" ∈ gTs := tw_a (List.mem_of_getElem? (i := 90) rfl) rfl
theorem tw_92 : Cond.lays "StageMachine$Painter" "StageMachine$Painter" "begunInDraw" "I" ∈ gTs := tw_a (List.mem_of_getElem? (i := 92) rfl) rfl
theorem tw_94 : Cond.lays "StageMachine$Painter" "StageMachine$Painter" "begunInFrame" "I" ∈ gTs := tw_a (List.mem_of_getElem? (i := 94) rfl) rfl
theorem tw_96 : Cond.lays "StageMachine$Painter" "StageMachine$Painter" "rowsInFrame" "I" ∈ gTs := tw_a (List.mem_of_getElem? (i := 96) rfl) rfl
theorem tw_98 : Cond.superclass "StageMachine$Painter" "java/lang/Object" ∈ gTs := tw_a (List.mem_of_getElem? (i := 98) rfl) rfl
theorem tw_99 : Cond.instantiable "StageMachine$Channel" 7 ∈ gTs := tw_a (List.mem_of_getElem? (i := 99) rfl) rfl
theorem tw_100 : Cond.methodLinkNest "StageMachine$Player" 43 ⟨"StageMachine$Channel", "<init>", "()V"⟩ "StageMachine" ∈ gTs := tw_a (List.mem_of_getElem? (i := 100) rfl) rfl
theorem tw_101 : Cond.instanceMethod ⟨"StageMachine$Channel", "<init>", "()V"⟩ ∈ gTs := tw_a (List.mem_of_getElem? (i := 101) rfl) rfl
theorem tw_102 : Cond.code ⟨"StageMachine$Channel", "<init>", "()V"⟩ prog_3_method_1_code 1 none ∈ gTs := tw_a (List.mem_of_getElem? (i := 102) rfl) rfl
theorem tw_103 : Cond.methodLink "StageMachine$Channel" 3 ⟨"java/lang/Object", "<init>", "()V"⟩ ∈ gTs := tw_a (List.mem_of_getElem? (i := 103) rfl) rfl
theorem tw_104 : Cond.fieldLink "StageMachine$Channel" 9 "StageMachine$Channel" "pile" "[I" ∈ gTs := tw_a (List.mem_of_getElem? (i := 104) rfl) rfl
theorem tw_105 : Cond.fieldLink "StageMachine$Channel" 15 "StageMachine$Channel" "returns" "I" ∈ gTs := tw_a (List.mem_of_getElem? (i := 105) rfl) rfl
theorem tw_106 : Cond.fieldLinkNest "StageMachine" 81 "StageMachine$Channel" "returns" "I" "StageMachine" ∈ gTs := tw_a (List.mem_of_getElem? (i := 106) rfl) rfl
theorem tw_107 : Cond.fieldLink "StageMachine$Channel" 19 "StageMachine$Channel" "address" "I" ∈ gTs := tw_a (List.mem_of_getElem? (i := 107) rfl) rfl
theorem tw_108 : Cond.fieldLinkNest "StageMachine$Player" 44 "StageMachine$Channel" "address" "I" "StageMachine" ∈ gTs := tw_a (List.mem_of_getElem? (i := 108) rfl) rfl
theorem tw_109 : Cond.fieldLinkNest "StageMachine" 74 "StageMachine$Channel" "address" "I" "StageMachine" ∈ gTs := tw_a (List.mem_of_getElem? (i := 109) rfl) rfl
theorem tw_110 : Cond.fieldLink "StageMachine$Channel" 22 "StageMachine$Channel" "paused" "Z" ∈ gTs := tw_a (List.mem_of_getElem? (i := 110) rfl) rfl
theorem tw_111 : Cond.fieldLinkNest "StageMachine" 77 "StageMachine$Channel" "paused" "Z" "StageMachine" ∈ gTs := tw_a (List.mem_of_getElem? (i := 111) rfl) rfl
theorem tw_112 : Cond.fieldLink "StageMachine$Channel" 26 "StageMachine$Channel" "latestFault" "I" ∈ gTs := tw_a (List.mem_of_getElem? (i := 112) rfl) rfl
theorem tw_113 : Cond.fieldLinkNest "StageMachine" 84 "StageMachine$Channel" "latestFault" "I" "StageMachine" ∈ gTs := tw_a (List.mem_of_getElem? (i := 113) rfl) rfl
theorem tw_114 : Cond.fieldLinkNest "StageMachine$Player" 152 "StageMachine$Channel" "latestFault" "I" "StageMachine" ∈ gTs := tw_a (List.mem_of_getElem? (i := 114) rfl) rfl
theorem tw_115 : Cond.fieldLink "StageMachine$Channel" 29 "StageMachine$Channel" "askedAddress" "I" ∈ gTs := tw_a (List.mem_of_getElem? (i := 115) rfl) rfl
theorem tw_116 : Cond.fieldLinkNest "StageMachine" 49 "StageMachine$Channel" "askedAddress" "I" "StageMachine" ∈ gTs := tw_a (List.mem_of_getElem? (i := 116) rfl) rfl
theorem tw_117 : Cond.fieldLinkNest "StageMachine$Player" 118 "StageMachine$Channel" "askedAddress" "I" "StageMachine" ∈ gTs := tw_a (List.mem_of_getElem? (i := 117) rfl) rfl
theorem tw_118 : Cond.fieldLink "StageMachine$Channel" 32 "StageMachine$Channel" "askedPause" "I" ∈ gTs := tw_a (List.mem_of_getElem? (i := 118) rfl) rfl
theorem tw_119 : Cond.fieldLinkNest "StageMachine$Player" 121 "StageMachine$Channel" "askedPause" "I" "StageMachine" ∈ gTs := tw_a (List.mem_of_getElem? (i := 119) rfl) rfl
theorem tw_120 : Cond.laysFinal "StageMachine$Channel" "StageMachine$Channel" "pile" "[I" ∈ gTs := tw_a (List.mem_of_getElem? (i := 120) rfl) rfl
theorem tw_122 : Cond.lays "StageMachine$Channel" "StageMachine$Channel" "returns" "I" ∈ gTs := tw_a (List.mem_of_getElem? (i := 122) rfl) rfl
theorem tw_124 : Cond.lays "StageMachine$Channel" "StageMachine$Channel" "address" "I" ∈ gTs := tw_a (List.mem_of_getElem? (i := 124) rfl) rfl
theorem tw_126 : Cond.lays "StageMachine$Channel" "StageMachine$Channel" "paused" "Z" ∈ gTs := tw_a (List.mem_of_getElem? (i := 126) rfl) rfl
theorem tw_128 : Cond.lays "StageMachine$Channel" "StageMachine$Channel" "latestFault" "I" ∈ gTs := tw_a (List.mem_of_getElem? (i := 128) rfl) rfl
theorem tw_130 : Cond.lays "StageMachine$Channel" "StageMachine$Channel" "askedAddress" "I" ∈ gTs := tw_a (List.mem_of_getElem? (i := 130) rfl) rfl
theorem tw_132 : Cond.lays "StageMachine$Channel" "StageMachine$Channel" "askedPause" "I" ∈ gTs := tw_a (List.mem_of_getElem? (i := 132) rfl) rfl
theorem tw_134 : Cond.superclass "StageMachine$Channel" "java/lang/Object" ∈ gTs := tw_a (List.mem_of_getElem? (i := 134) rfl) rfl
theorem tw_135 : Cond.fieldLink "StageMachine$Player" 12 "StageMachine$Player" "program" "LStageMachine$Bytes;" ∈ gTs := tw_a (List.mem_of_getElem? (i := 135) rfl) rfl
theorem tw_136 : Cond.fieldLinkNest "StageMachine" 109 "StageMachine$Player" "program" "LStageMachine$Bytes;" "StageMachine" ∈ gTs := tw_a (List.mem_of_getElem? (i := 136) rfl) rfl
theorem tw_137 : Cond.fieldLink "StageMachine$Player" 18 "StageMachine$Player" "variables" "[I" ∈ gTs := tw_a (List.mem_of_getElem? (i := 137) rfl) rfl
theorem tw_138 : Cond.fieldLinkNest "StageMachine" 41 "StageMachine$Player" "variables" "[I" "StageMachine" ∈ gTs := tw_a (List.mem_of_getElem? (i := 138) rfl) rfl
theorem tw_139 : Cond.fieldLink "StageMachine$Player" 24 "StageMachine$Player" "channels" "[LStageMachine$Channel;" ∈ gTs := tw_a (List.mem_of_getElem? (i := 139) rfl) rfl
theorem tw_140 : Cond.fieldLinkNest "StageMachine" 45 "StageMachine$Player" "channels" "[LStageMachine$Channel;" "StageMachine" ∈ gTs := tw_a (List.mem_of_getElem? (i := 140) rfl) rfl
theorem tw_141 : Cond.fieldLink "StageMachine$Player" 31 "StageMachine$Player" "painter" "LStageMachine$Painter;" ∈ gTs := tw_a (List.mem_of_getElem? (i := 141) rfl) rfl
theorem tw_142 : Cond.fieldLinkNest "StageMachine" 54 "StageMachine$Player" "painter" "LStageMachine$Painter;" "StageMachine" ∈ gTs := tw_a (List.mem_of_getElem? (i := 142) rfl) rfl
theorem tw_143 : Cond.fieldLink "StageMachine$Player" 35 "StageMachine$Player" "at" "I" ∈ gTs := tw_a (List.mem_of_getElem? (i := 143) rfl) rfl
theorem tw_144 : Cond.fieldLink "StageMachine$Player" 39 "StageMachine$Player" "goingOn" "Z" ∈ gTs := tw_a (List.mem_of_getElem? (i := 144) rfl) rfl
theorem tw_145 : Cond.laysFinal "StageMachine$Player" "StageMachine$Player" "program" "LStageMachine$Bytes;" ∈ gTs := tw_a (List.mem_of_getElem? (i := 145) rfl) rfl
theorem tw_147 : Cond.laysFinal "StageMachine$Player" "StageMachine$Player" "variables" "[I" ∈ gTs := tw_a (List.mem_of_getElem? (i := 147) rfl) rfl
theorem tw_149 : Cond.laysFinal "StageMachine$Player" "StageMachine$Player" "channels" "[LStageMachine$Channel;" ∈ gTs := tw_a (List.mem_of_getElem? (i := 149) rfl) rfl
theorem tw_151 : Cond.laysFinal "StageMachine$Player" "StageMachine$Player" "painter" "LStageMachine$Painter;" ∈ gTs := tw_a (List.mem_of_getElem? (i := 151) rfl) rfl
theorem tw_153 : Cond.lays "StageMachine$Player" "StageMachine$Player" "at" "I" ∈ gTs := tw_a (List.mem_of_getElem? (i := 153) rfl) rfl
theorem tw_155 : Cond.lays "StageMachine$Player" "StageMachine$Player" "goingOn" "Z" ∈ gTs := tw_a (List.mem_of_getElem? (i := 155) rfl) rfl
theorem tw_157 : Cond.superclass "StageMachine$Player" "java/lang/Object" ∈ gTs := tw_a (List.mem_of_getElem? (i := 157) rfl) rfl
theorem tw_158 : Cond.fieldLink "StageMachine" 19 "StageMachine" "player" "LStageMachine$Player;" ∈ gTs := tw_a (List.mem_of_getElem? (i := 158) rfl) rfl
theorem tw_159 : Cond.fieldLink "StageMachine" 9 "StageMachine" "frames" "I" ∈ gTs := tw_a (List.mem_of_getElem? (i := 159) rfl) rfl
theorem tw_160 : Cond.fieldLink "StageMachine" 13 "StageMachine" "instructionsDone" "I" ∈ gTs := tw_a (List.mem_of_getElem? (i := 160) rfl) rfl
theorem tw_161 : Cond.laysFinal "StageMachine" "StageMachine" "player" "LStageMachine$Player;" ∈ gTs := tw_a (List.mem_of_getElem? (i := 161) rfl) rfl
theorem tw_163 : Cond.lays "StageMachine" "StageMachine" "frames" "I" ∈ gTs := tw_a (List.mem_of_getElem? (i := 163) rfl) rfl
theorem tw_165 : Cond.lays "StageMachine" "StageMachine" "instructionsDone" "I" ∈ gTs := tw_a (List.mem_of_getElem? (i := 165) rfl) rfl
theorem tw_167 : Cond.superclass "StageMachine" "java/lang/Object" ∈ gTs := tw_a (List.mem_of_getElem? (i := 167) rfl) rfl
theorem tw_168 : Cond.methodLink "StageMachineLaw" 13 ⟨"StageMachine", "put", "(III)Z"⟩ ∈ gTs := tw_a (List.mem_of_getElem? (i := 168) rfl) rfl
theorem tw_169 : Cond.instanceMethod ⟨"StageMachine", "put", "(III)Z"⟩ ∈ gTs := tw_a (List.mem_of_getElem? (i := 169) rfl) rfl
theorem tw_170 : Cond.selects "StageMachine" ⟨"StageMachine", "put", "(III)Z"⟩ ⟨"StageMachine", "put", "(III)Z"⟩ ∈ gTs := tw_a (List.mem_of_getElem? (i := 170) rfl) rfl
theorem tw_171 : Cond.code ⟨"StageMachine", "put", "(III)Z"⟩ prog_1_method_2_code 6 (some .boolean) ∈ gTs := tw_a (List.mem_of_getElem? (i := 171) rfl) rfl
theorem tw_172 : Cond.methodLink "StageMachine" 23 ⟨"StageMachine", "bytesOf", "(I)LStageMachine$Bytes;"⟩ ∈ gTs := tw_a (List.mem_of_getElem? (i := 172) rfl) rfl
theorem tw_174 : Cond.instanceMethod ⟨"StageMachine", "bytesOf", "(I)LStageMachine$Bytes;"⟩ ∈ gTs := tw_a (List.mem_of_getElem? (i := 174) rfl) rfl
theorem tw_175 : Cond.code ⟨"StageMachine", "bytesOf", "(I)LStageMachine$Bytes;"⟩ prog_1_method_11_code 2 (some (.object "StageMachine$Bytes")) ∈ gTs := tw_a (List.mem_of_getElem? (i := 175) rfl) rfl
theorem tw_176 : Cond.methodLink "StageMachine" 27 ⟨"StageMachine$Bytes", "write", "(II)V"⟩ ∈ gTs := tw_a (List.mem_of_getElem? (i := 176) rfl) rfl
theorem tw_177 : Cond.instanceMethod ⟨"StageMachine$Bytes", "write", "(II)V"⟩ ∈ gTs := tw_a (List.mem_of_getElem? (i := 177) rfl) rfl
theorem tw_178 : Cond.selects "StageMachine$Bytes" ⟨"StageMachine$Bytes", "write", "(II)V"⟩ ⟨"StageMachine$Bytes", "write", "(II)V"⟩ ∈ gTs := tw_a (List.mem_of_getElem? (i := 178) rfl) rfl
theorem tw_179 : Cond.code ⟨"StageMachine$Bytes", "write", "(II)V"⟩ prog_2_method_4_code 3 none ∈ gTs := tw_a (List.mem_of_getElem? (i := 179) rfl) rfl
theorem tw_180 : Cond.methodLink "StageMachineLaw" 18 ⟨"StageMachine", "byteAt", "(II)I"⟩ ∈ gTs := tw_a (List.mem_of_getElem? (i := 180) rfl) rfl
theorem tw_181 : Cond.instanceMethod ⟨"StageMachine", "byteAt", "(II)I"⟩ ∈ gTs := tw_a (List.mem_of_getElem? (i := 181) rfl) rfl
theorem tw_182 : Cond.selects "StageMachine" ⟨"StageMachine", "byteAt", "(II)I"⟩ ⟨"StageMachine", "byteAt", "(II)I"⟩ ∈ gTs := tw_a (List.mem_of_getElem? (i := 182) rfl) rfl
theorem tw_183 : Cond.code ⟨"StageMachine", "byteAt", "(II)I"⟩ prog_1_method_3_code 4 (some .int) ∈ gTs := tw_a (List.mem_of_getElem? (i := 183) rfl) rfl
theorem tw_184 : Cond.methodLink "StageMachine" 33 ⟨"StageMachine$Bytes", "read", "(I)I"⟩ ∈ gTs := tw_a (List.mem_of_getElem? (i := 184) rfl) rfl
theorem tw_185 : Cond.instanceMethod ⟨"StageMachine$Bytes", "read", "(I)I"⟩ ∈ gTs := tw_a (List.mem_of_getElem? (i := 185) rfl) rfl
theorem tw_186 : Cond.selects "StageMachine$Bytes" ⟨"StageMachine$Bytes", "read", "(I)I"⟩ ⟨"StageMachine$Bytes", "read", "(I)I"⟩ ∈ gTs := tw_a (List.mem_of_getElem? (i := 186) rfl) rfl
theorem tw_187 : Cond.code ⟨"StageMachine$Bytes", "read", "(I)I"⟩ prog_2_method_2_code 2 (some .int) ∈ gTs := tw_a (List.mem_of_getElem? (i := 187) rfl) rfl
theorem tw_188 : Cond.methodLink "StageMachineLaw" 23 ⟨"StageMachine", "set", "(II)Z"⟩ ∈ gTs := tw_a (List.mem_of_getElem? (i := 188) rfl) rfl
theorem tw_189 : Cond.instanceMethod ⟨"StageMachine", "set", "(II)Z"⟩ ∈ gTs := tw_a (List.mem_of_getElem? (i := 189) rfl) rfl
theorem tw_190 : Cond.selects "StageMachine" ⟨"StageMachine", "set", "(II)Z"⟩ ⟨"StageMachine", "set", "(II)Z"⟩ ∈ gTs := tw_a (List.mem_of_getElem? (i := 190) rfl) rfl
theorem tw_191 : Cond.code ⟨"StageMachine", "set", "(II)Z"⟩ prog_1_method_4_code 3 (some .boolean) ∈ gTs := tw_a (List.mem_of_getElem? (i := 191) rfl) rfl
theorem tw_192 : Cond.methodLink "StageMachine" 37 ⟨"StageMachine", "isBelow", "(II)Z"⟩ ∈ gTs := tw_a (List.mem_of_getElem? (i := 192) rfl) rfl
theorem tw_193 : Cond.static ⟨"StageMachine", "isBelow", "(II)Z"⟩ ∈ gTs := tw_a (List.mem_of_getElem? (i := 193) rfl) rfl
theorem tw_194 : Cond.code ⟨"StageMachine", "isBelow", "(II)Z"⟩ prog_1_method_12_code 2 (some .boolean) ∈ gTs := tw_a (List.mem_of_getElem? (i := 194) rfl) rfl
theorem tw_195 : Cond.methodLink "StageMachineLaw" 28 ⟨"StageMachine", "get", "(I)I"⟩ ∈ gTs := tw_a (List.mem_of_getElem? (i := 195) rfl) rfl
theorem tw_196 : Cond.instanceMethod ⟨"StageMachine", "get", "(I)I"⟩ ∈ gTs := tw_a (List.mem_of_getElem? (i := 196) rfl) rfl
theorem tw_197 : Cond.selects "StageMachine" ⟨"StageMachine", "get", "(I)I"⟩ ⟨"StageMachine", "get", "(I)I"⟩ ∈ gTs := tw_a (List.mem_of_getElem? (i := 197) rfl) rfl
theorem tw_198 : Cond.code ⟨"StageMachine", "get", "(I)I"⟩ prog_1_method_5_code 2 (some .int) ∈ gTs := tw_a (List.mem_of_getElem? (i := 198) rfl) rfl
theorem tw_199 : Cond.methodLink "StageMachineLaw" 33 ⟨"StageMachine", "ask", "(II)Z"⟩ ∈ gTs := tw_a (List.mem_of_getElem? (i := 199) rfl) rfl
theorem tw_200 : Cond.instanceMethod ⟨"StageMachine", "ask", "(II)Z"⟩ ∈ gTs := tw_a (List.mem_of_getElem? (i := 200) rfl) rfl
theorem tw_201 : Cond.selects "StageMachine" ⟨"StageMachine", "ask", "(II)Z"⟩ ⟨"StageMachine", "ask", "(II)Z"⟩ ∈ gTs := tw_a (List.mem_of_getElem? (i := 201) rfl) rfl
theorem tw_202 : Cond.code ⟨"StageMachine", "ask", "(II)Z"⟩ prog_1_method_6_code 3 (some .boolean) ∈ gTs := tw_a (List.mem_of_getElem? (i := 202) rfl) rfl
theorem tw_203 : Cond.methodLink "StageMachineLaw" 37 ⟨"StageMachine", "frame", "(I)I"⟩ ∈ gTs := tw_a (List.mem_of_getElem? (i := 203) rfl) rfl
theorem tw_204 : Cond.instanceMethod ⟨"StageMachine", "frame", "(I)I"⟩ ∈ gTs := tw_a (List.mem_of_getElem? (i := 204) rfl) rfl
theorem tw_205 : Cond.selects "StageMachine" ⟨"StageMachine", "frame", "(I)I"⟩ ⟨"StageMachine", "frame", "(I)I"⟩ ∈ gTs := tw_a (List.mem_of_getElem? (i := 205) rfl) rfl
theorem tw_206 : Cond.code ⟨"StageMachine", "frame", "(I)I"⟩ prog_1_method_7_code 4 (some .int) ∈ gTs := tw_a (List.mem_of_getElem? (i := 206) rfl) rfl
theorem tw_207 : Cond.methodLink "StageMachine" 58 ⟨"StageMachine$Painter", "forgetCounts", "()V"⟩ ∈ gTs := tw_a (List.mem_of_getElem? (i := 207) rfl) rfl
theorem tw_208 : Cond.instanceMethod ⟨"StageMachine$Painter", "forgetCounts", "()V"⟩ ∈ gTs := tw_a (List.mem_of_getElem? (i := 208) rfl) rfl
theorem tw_209 : Cond.selects "StageMachine$Painter" ⟨"StageMachine$Painter", "forgetCounts", "()V"⟩ ⟨"StageMachine$Painter", "forgetCounts", "()V"⟩ ∈ gTs := tw_a (List.mem_of_getElem? (i := 209) rfl) rfl
theorem tw_210 : Cond.code ⟨"StageMachine$Painter", "forgetCounts", "()V"⟩ prog_5_method_2_code 1 none ∈ gTs := tw_a (List.mem_of_getElem? (i := 210) rfl) rfl
theorem tw_211 : Cond.methodLink "StageMachine" 63 ⟨"StageMachine$Channel", "settleAsked", "()V"⟩ ∈ gTs := tw_a (List.mem_of_getElem? (i := 211) rfl) rfl
theorem tw_212 : Cond.instanceMethod ⟨"StageMachine$Channel", "settleAsked", "()V"⟩ ∈ gTs := tw_a (List.mem_of_getElem? (i := 212) rfl) rfl
theorem tw_213 : Cond.selects "StageMachine$Channel" ⟨"StageMachine$Channel", "settleAsked", "()V"⟩ ⟨"StageMachine$Channel", "settleAsked", "()V"⟩ ∈ gTs := tw_a (List.mem_of_getElem? (i := 213) rfl) rfl
theorem tw_214 : Cond.code ⟨"StageMachine$Channel", "settleAsked", "()V"⟩ prog_3_method_3_code 1 none ∈ gTs := tw_a (List.mem_of_getElem? (i := 214) rfl) rfl
theorem tw_215 : Cond.methodLink "StageMachine" 66 ⟨"StageMachine$Channel", "isRunning", "()Z"⟩ ∈ gTs := tw_a (List.mem_of_getElem? (i := 215) rfl) rfl
theorem tw_216 : Cond.instanceMethod ⟨"StageMachine$Channel", "isRunning", "()Z"⟩ ∈ gTs := tw_a (List.mem_of_getElem? (i := 216) rfl) rfl
theorem tw_217 : Cond.selects "StageMachine$Channel" ⟨"StageMachine$Channel", "isRunning", "()Z"⟩ ⟨"StageMachine$Channel", "isRunning", "()Z"⟩ ∈ gTs := tw_a (List.mem_of_getElem? (i := 217) rfl) rfl
theorem tw_218 : Cond.code ⟨"StageMachine$Channel", "isRunning", "()Z"⟩ prog_3_method_2_code 1 (some .boolean) ∈ gTs := tw_a (List.mem_of_getElem? (i := 218) rfl) rfl
theorem tw_219 : Cond.methodLink "StageMachine" 70 ⟨"StageMachine$Player", "takeTurn", "(LStageMachine$Channel;I)I"⟩ ∈ gTs := tw_a (List.mem_of_getElem? (i := 219) rfl) rfl
theorem tw_220 : Cond.instanceMethod ⟨"StageMachine$Player", "takeTurn", "(LStageMachine$Channel;I)I"⟩ ∈ gTs := tw_a (List.mem_of_getElem? (i := 220) rfl) rfl
theorem tw_221 : Cond.selects "StageMachine$Player" ⟨"StageMachine$Player", "takeTurn", "(LStageMachine$Channel;I)I"⟩ ⟨"StageMachine$Player", "takeTurn", "(LStageMachine$Channel;I)I"⟩ ∈ gTs := tw_a (List.mem_of_getElem? (i := 221) rfl) rfl
theorem tw_222 : Cond.code ⟨"StageMachine$Player", "takeTurn", "(LStageMachine$Channel;I)I"⟩ prog_6_method_2_code 5 (some .int) ∈ gTs := tw_a (List.mem_of_getElem? (i := 222) rfl) rfl
theorem tw_223 : Cond.methodLink "StageMachine$Player" 47 ⟨"StageMachine$Player", "doInstruction", "(LStageMachine$Channel;)V"⟩ ∈ gTs := tw_a (List.mem_of_getElem? (i := 223) rfl) rfl
theorem tw_225 : Cond.instanceMethod ⟨"StageMachine$Player", "doInstruction", "(LStageMachine$Channel;)V"⟩ ∈ gTs := tw_a (List.mem_of_getElem? (i := 225) rfl) rfl
theorem tw_226 : Cond.code ⟨"StageMachine$Player", "doInstruction", "(LStageMachine$Channel;)V"⟩ prog_6_method_3_code 3 none ∈ gTs := tw_a (List.mem_of_getElem? (i := 226) rfl) rfl
theorem tw_227 : Cond.methodLink "StageMachine$Player" 51 ⟨"StageMachine$Player", "nextByte", "()I"⟩ ∈ gTs := tw_a (List.mem_of_getElem? (i := 227) rfl) rfl
theorem tw_229 : Cond.instanceMethod ⟨"StageMachine$Player", "nextByte", "()I"⟩ ∈ gTs := tw_a (List.mem_of_getElem? (i := 229) rfl) rfl
theorem tw_230 : Cond.code ⟨"StageMachine$Player", "nextByte", "()I"⟩ prog_6_method_18_code 2 (some .int) ∈ gTs := tw_a (List.mem_of_getElem? (i := 230) rfl) rfl
theorem tw_231 : Cond.methodLink "StageMachine$Player" 155 ⟨"StageMachine$Bytes", "read", "(I)I"⟩ ∈ gTs := tw_a (List.mem_of_getElem? (i := 231) rfl) rfl
theorem tw_232 : Cond.methodLink "StageMachine$Player" 55 ⟨"StageMachine$Player", "compute", "(I)V"⟩ ∈ gTs := tw_a (List.mem_of_getElem? (i := 232) rfl) rfl
theorem tw_234 : Cond.instanceMethod ⟨"StageMachine$Player", "compute", "(I)V"⟩ ∈ gTs := tw_a (List.mem_of_getElem? (i := 234) rfl) rfl
theorem tw_235 : Cond.code ⟨"StageMachine$Player", "compute", "(I)V"⟩ prog_6_method_4_code 3 none ∈ gTs := tw_a (List.mem_of_getElem? (i := 235) rfl) rfl
theorem tw_236 : Cond.methodLink "StageMachine$Player" 93 ⟨"StageMachine$Player", "nextVariable", "()I"⟩ ∈ gTs := tw_a (List.mem_of_getElem? (i := 236) rfl) rfl
theorem tw_238 : Cond.instanceMethod ⟨"StageMachine$Player", "nextVariable", "()I"⟩ ∈ gTs := tw_a (List.mem_of_getElem? (i := 238) rfl) rfl
theorem tw_239 : Cond.code ⟨"StageMachine$Player", "nextVariable", "()I"⟩ prog_6_method_20_code 1 (some .int) ∈ gTs := tw_a (List.mem_of_getElem? (i := 239) rfl) rfl
theorem tw_240 : Cond.methodLink "StageMachine$Player" 96 ⟨"StageMachine$Player", "nextNumber", "()I"⟩ ∈ gTs := tw_b (List.mem_of_getElem? (i := 0) rfl) rfl
theorem tw_242 : Cond.instanceMethod ⟨"StageMachine$Player", "nextNumber", "()I"⟩ ∈ gTs := tw_b (List.mem_of_getElem? (i := 2) rfl) rfl
theorem tw_243 : Cond.code ⟨"StageMachine$Player", "nextNumber", "()I"⟩ prog_6_method_21_code 1 (some .int) ∈ gTs := tw_b (List.mem_of_getElem? (i := 3) rfl) rfl
theorem tw_244 : Cond.methodLink "StageMachine$Player" 161 ⟨"StageMachine$Player", "nextPair", "()I"⟩ ∈ gTs := tw_b (List.mem_of_getElem? (i := 4) rfl) rfl
theorem tw_246 : Cond.instanceMethod ⟨"StageMachine$Player", "nextPair", "()I"⟩ ∈ gTs := tw_b (List.mem_of_getElem? (i := 6) rfl) rfl
theorem tw_247 : Cond.code ⟨"StageMachine$Player", "nextPair", "()I"⟩ prog_6_method_19_code 2 (some .int) ∈ gTs := tw_b (List.mem_of_getElem? (i := 7) rfl) rfl
theorem tw_248 : Cond.methodLink "StageMachine$Player" 158 ⟨"StageMachine$Bytes", "readPair", "(I)I"⟩ ∈ gTs := tw_b (List.mem_of_getElem? (i := 8) rfl) rfl
theorem tw_249 : Cond.instanceMethod ⟨"StageMachine$Bytes", "readPair", "(I)I"⟩ ∈ gTs := tw_b (List.mem_of_getElem? (i := 9) rfl) rfl
theorem tw_250 : Cond.selects "StageMachine$Bytes" ⟨"StageMachine$Bytes", "readPair", "(I)I"⟩ ⟨"StageMachine$Bytes", "readPair", "(I)I"⟩ ∈ gTs := tw_b (List.mem_of_getElem? (i := 10) rfl) rfl
theorem tw_251 : Cond.code ⟨"StageMachine$Bytes", "readPair", "(I)I"⟩ prog_2_method_3_code 3 (some .int) ∈ gTs := tw_b (List.mem_of_getElem? (i := 11) rfl) rfl
theorem tw_252 : Cond.methodLink "StageMachine$Player" 99 ⟨"StageMachine$Player", "store", "(II)V"⟩ ∈ gTs := tw_b (List.mem_of_getElem? (i := 12) rfl) rfl
theorem tw_254 : Cond.instanceMethod ⟨"StageMachine$Player", "store", "(II)V"⟩ ∈ gTs := tw_b (List.mem_of_getElem? (i := 14) rfl) rfl
theorem tw_255 : Cond.code ⟨"StageMachine$Player", "store", "(II)V"⟩ prog_6_method_17_code 3 none ∈ gTs := tw_b (List.mem_of_getElem? (i := 15) rfl) rfl
theorem tw_256 : Cond.methodLink "StageMachine$Player" 59 ⟨"StageMachine$Player", "nextAddress", "()I"⟩ ∈ gTs := tw_b (List.mem_of_getElem? (i := 16) rfl) rfl
theorem tw_258 : Cond.instanceMethod ⟨"StageMachine$Player", "nextAddress", "()I"⟩ ∈ gTs := tw_b (List.mem_of_getElem? (i := 18) rfl) rfl
theorem tw_259 : Cond.code ⟨"StageMachine$Player", "nextAddress", "()I"⟩ prog_6_method_22_code 1 (some .int) ∈ gTs := tw_b (List.mem_of_getElem? (i := 19) rfl) rfl
theorem tw_260 : Cond.methodLink "StageMachine$Player" 62 ⟨"StageMachine$Player", "callAddress", "(LStageMachine$Channel;)V"⟩ ∈ gTs := tw_b (List.mem_of_getElem? (i := 20) rfl) rfl
theorem tw_262 : Cond.instanceMethod ⟨"StageMachine$Player", "callAddress", "(LStageMachine$Channel;)V"⟩ ∈ gTs := tw_b (List.mem_of_getElem? (i := 22) rfl) rfl
theorem tw_263 : Cond.code ⟨"StageMachine$Player", "callAddress", "(LStageMachine$Channel;)V"⟩ prog_6_method_5_code 3 none ∈ gTs := tw_b (List.mem_of_getElem? (i := 23) rfl) rfl
theorem tw_264 : Cond.methodLink "StageMachine$Player" 103 ⟨"StageMachine$Channel", "pushReturn", "(I)Z"⟩ ∈ gTs := tw_b (List.mem_of_getElem? (i := 24) rfl) rfl
theorem tw_265 : Cond.instanceMethod ⟨"StageMachine$Channel", "pushReturn", "(I)Z"⟩ ∈ gTs := tw_b (List.mem_of_getElem? (i := 25) rfl) rfl
theorem tw_266 : Cond.selects "StageMachine$Channel" ⟨"StageMachine$Channel", "pushReturn", "(I)Z"⟩ ⟨"StageMachine$Channel", "pushReturn", "(I)Z"⟩ ∈ gTs := tw_b (List.mem_of_getElem? (i := 26) rfl) rfl
theorem tw_267 : Cond.code ⟨"StageMachine$Channel", "pushReturn", "(I)Z"⟩ prog_3_method_4_code 2 (some .boolean) ∈ gTs := tw_b (List.mem_of_getElem? (i := 27) rfl) rfl
theorem tw_268 : Cond.methodLink "StageMachine$Player" 89 ⟨"StageMachine$Player", "fail", "(LStageMachine$Channel;I)V"⟩ ∈ gTs := tw_b (List.mem_of_getElem? (i := 28) rfl) rfl
theorem tw_270 : Cond.instanceMethod ⟨"StageMachine$Player", "fail", "(LStageMachine$Channel;I)V"⟩ ∈ gTs := tw_b (List.mem_of_getElem? (i := 30) rfl) rfl
theorem tw_271 : Cond.code ⟨"StageMachine$Player", "fail", "(LStageMachine$Channel;I)V"⟩ prog_6_method_15_code 3 none ∈ gTs := tw_b (List.mem_of_getElem? (i := 31) rfl) rfl
theorem tw_272 : Cond.methodLink "StageMachine$Player" 74 ⟨"StageMachine$Player", "end", "()V"⟩ ∈ gTs := tw_b (List.mem_of_getElem? (i := 32) rfl) rfl
theorem tw_274 : Cond.instanceMethod ⟨"StageMachine$Player", "end", "()V"⟩ ∈ gTs := tw_b (List.mem_of_getElem? (i := 34) rfl) rfl
theorem tw_275 : Cond.code ⟨"StageMachine$Player", "end", "()V"⟩ prog_6_method_16_code 1 none ∈ gTs := tw_b (List.mem_of_getElem? (i := 35) rfl) rfl
theorem tw_276 : Cond.methodLink "StageMachine$Player" 65 ⟨"StageMachine$Player", "comeBack", "(LStageMachine$Channel;)V"⟩ ∈ gTs := tw_b (List.mem_of_getElem? (i := 36) rfl) rfl
theorem tw_278 : Cond.instanceMethod ⟨"StageMachine$Player", "comeBack", "(LStageMachine$Channel;)V"⟩ ∈ gTs := tw_b (List.mem_of_getElem? (i := 38) rfl) rfl
theorem tw_279 : Cond.code ⟨"StageMachine$Player", "comeBack", "(LStageMachine$Channel;)V"⟩ prog_6_method_6_code 3 none ∈ gTs := tw_b (List.mem_of_getElem? (i := 39) rfl) rfl
theorem tw_280 : Cond.methodLink "StageMachine$Player" 107 ⟨"StageMachine$Channel", "popReturn", "()I"⟩ ∈ gTs := tw_b (List.mem_of_getElem? (i := 40) rfl) rfl
theorem tw_281 : Cond.instanceMethod ⟨"StageMachine$Channel", "popReturn", "()I"⟩ ∈ gTs := tw_b (List.mem_of_getElem? (i := 41) rfl) rfl
theorem tw_282 : Cond.selects "StageMachine$Channel" ⟨"StageMachine$Channel", "popReturn", "()I"⟩ ⟨"StageMachine$Channel", "popReturn", "()I"⟩ ∈ gTs := tw_b (List.mem_of_getElem? (i := 42) rfl) rfl
theorem tw_283 : Cond.code ⟨"StageMachine$Channel", "popReturn", "()I"⟩ prog_3_method_5_code 1 (some .int) ∈ gTs := tw_b (List.mem_of_getElem? (i := 43) rfl) rfl
theorem tw_284 : Cond.methodLink "StageMachine$Player" 68 ⟨"StageMachine$Player", "loop", "()V"⟩ ∈ gTs := tw_b (List.mem_of_getElem? (i := 44) rfl) rfl
theorem tw_286 : Cond.instanceMethod ⟨"StageMachine$Player", "loop", "()V"⟩ ∈ gTs := tw_b (List.mem_of_getElem? (i := 46) rfl) rfl
theorem tw_287 : Cond.code ⟨"StageMachine$Player", "loop", "()V"⟩ prog_6_method_7_code 3 none ∈ gTs := tw_b (List.mem_of_getElem? (i := 47) rfl) rfl
theorem tw_288 : Cond.methodLink "StageMachine$Player" 71 ⟨"StageMachine$Player", "jumpIf", "(LStageMachine$Channel;)V"⟩ ∈ gTs := tw_b (List.mem_of_getElem? (i := 48) rfl) rfl
theorem tw_290 : Cond.instanceMethod ⟨"StageMachine$Player", "jumpIf", "(LStageMachine$Channel;)V"⟩ ∈ gTs := tw_b (List.mem_of_getElem? (i := 50) rfl) rfl
theorem tw_291 : Cond.code ⟨"StageMachine$Player", "jumpIf", "(LStageMachine$Channel;)V"⟩ prog_6_method_8_code 7 none ∈ gTs := tw_b (List.mem_of_getElem? (i := 51) rfl) rfl
theorem tw_292 : Cond.methodLink "StageMachine$Player" 110 ⟨"StageMachine$Player", "nextCompared", "(I)I"⟩ ∈ gTs := tw_b (List.mem_of_getElem? (i := 52) rfl) rfl
theorem tw_294 : Cond.instanceMethod ⟨"StageMachine$Player", "nextCompared", "(I)I"⟩ ∈ gTs := tw_b (List.mem_of_getElem? (i := 54) rfl) rfl
theorem tw_295 : Cond.code ⟨"StageMachine$Player", "nextCompared", "(I)I"⟩ prog_6_method_9_code 2 (some .int) ∈ gTs := tw_b (List.mem_of_getElem? (i := 55) rfl) rfl
theorem tw_296 : Cond.methodLink "StageMachine$Player" 114 ⟨"StageMachine$Player", "compares", "(III)Z"⟩ ∈ gTs := tw_b (List.mem_of_getElem? (i := 56) rfl) rfl
theorem tw_297 : Cond.static ⟨"StageMachine$Player", "compares", "(III)Z"⟩ ∈ gTs := tw_b (List.mem_of_getElem? (i := 57) rfl) rfl
theorem tw_298 : Cond.code ⟨"StageMachine$Player", "compares", "(III)Z"⟩ prog_6_method_10_code 3 (some .boolean) ∈ gTs := tw_b (List.mem_of_getElem? (i := 58) rfl) rfl
theorem tw_299 : Cond.methodLink "StageMachine$Player" 77 ⟨"StageMachine$Player", "startOther", "()V"⟩ ∈ gTs := tw_b (List.mem_of_getElem? (i := 59) rfl) rfl
theorem tw_301 : Cond.instanceMethod ⟨"StageMachine$Player", "startOther", "()V"⟩ ∈ gTs := tw_b (List.mem_of_getElem? (i := 61) rfl) rfl
theorem tw_302 : Cond.code ⟨"StageMachine$Player", "startOther", "()V"⟩ prog_6_method_11_code 2 none ∈ gTs := tw_b (List.mem_of_getElem? (i := 62) rfl) rfl
theorem tw_303 : Cond.methodLink "StageMachine$Player" 80 ⟨"StageMachine$Player", "askOfEach", "(LStageMachine$Channel;)V"⟩ ∈ gTs := tw_b (List.mem_of_getElem? (i := 63) rfl) rfl
theorem tw_305 : Cond.instanceMethod ⟨"StageMachine$Player", "askOfEach", "(LStageMachine$Channel;)V"⟩ ∈ gTs := tw_b (List.mem_of_getElem? (i := 65) rfl) rfl
theorem tw_306 : Cond.code ⟨"StageMachine$Player", "askOfEach", "(LStageMachine$Channel;)V"⟩ prog_6_method_12_code 6 none ∈ gTs := tw_b (List.mem_of_getElem? (i := 66) rfl) rfl
theorem tw_307 : Cond.methodLink "StageMachine$Player" 83 ⟨"StageMachine$Player", "handlePages", "(I)V"⟩ ∈ gTs := tw_b (List.mem_of_getElem? (i := 67) rfl) rfl
theorem tw_309 : Cond.instanceMethod ⟨"StageMachine$Player", "handlePages", "(I)V"⟩ ∈ gTs := tw_b (List.mem_of_getElem? (i := 69) rfl) rfl
theorem tw_310 : Cond.code ⟨"StageMachine$Player", "handlePages", "(I)V"⟩ prog_6_method_13_code 4 none ∈ gTs := tw_b (List.mem_of_getElem? (i := 70) rfl) rfl
theorem tw_311 : Cond.methodLink "StageMachine$Player" 128 ⟨"StageMachine$Pages", "pageOf", "(I)I"⟩ ∈ gTs := tw_b (List.mem_of_getElem? (i := 71) rfl) rfl
theorem tw_312 : Cond.instanceMethod ⟨"StageMachine$Pages", "pageOf", "(I)I"⟩ ∈ gTs := tw_b (List.mem_of_getElem? (i := 72) rfl) rfl
theorem tw_313 : Cond.selects "StageMachine$Pages" ⟨"StageMachine$Pages", "pageOf", "(I)I"⟩ ⟨"StageMachine$Pages", "pageOf", "(I)I"⟩ ∈ gTs := tw_b (List.mem_of_getElem? (i := 73) rfl) rfl
theorem tw_314 : Cond.code ⟨"StageMachine$Pages", "pageOf", "(I)I"⟩ prog_4_method_2_code 2 (some .int) ∈ gTs := tw_b (List.mem_of_getElem? (i := 74) rfl) rfl
theorem tw_315 : Cond.methodLink "StageMachine$Player" 136 ⟨"StageMachine$Pages", "fill", "(II)V"⟩ ∈ gTs := tw_b (List.mem_of_getElem? (i := 75) rfl) rfl
theorem tw_316 : Cond.instanceMethod ⟨"StageMachine$Pages", "fill", "(II)V"⟩ ∈ gTs := tw_b (List.mem_of_getElem? (i := 76) rfl) rfl
theorem tw_317 : Cond.selects "StageMachine$Pages" ⟨"StageMachine$Pages", "fill", "(II)V"⟩ ⟨"StageMachine$Pages", "fill", "(II)V"⟩ ∈ gTs := tw_b (List.mem_of_getElem? (i := 77) rfl) rfl
theorem tw_318 : Cond.code ⟨"StageMachine$Pages", "fill", "(II)V"⟩ prog_4_method_4_code 4 none ∈ gTs := tw_b (List.mem_of_getElem? (i := 78) rfl) rfl
theorem tw_319 : Cond.methodLink "StageMachine$Pages" 22 ⟨"java/util/Arrays", "fill", "([BIIB)V"⟩ ∈ gTs := tw_b (List.mem_of_getElem? (i := 79) rfl) rfl
theorem tw_320 : Cond.static ⟨"java/util/Arrays", "fill", "([BIIB)V"⟩ ∈ gTs := tw_b (List.mem_of_getElem? (i := 80) rfl) rfl
theorem tw_321 : Cond.code ⟨"java/util/Arrays", "fill", "([BIIB)V"⟩ prog_11_method_110_code 5 none ∈ gTs := tw_b (List.mem_of_getElem? (i := 81) rfl) rfl
theorem tw_322 : Cond.methodLink "java/util/Arrays" 13 ⟨"java/util/Arrays", "rangeCheck", "(III)V"⟩ ∈ gTs := tw_b (List.mem_of_getElem? (i := 82) rfl) rfl
theorem tw_323 : Cond.static ⟨"java/util/Arrays", "rangeCheck", "(III)V"⟩ ∈ gTs := tw_b (List.mem_of_getElem? (i := 83) rfl) rfl
theorem tw_324 : Cond.code ⟨"java/util/Arrays", "rangeCheck", "(III)V"⟩ prog_11_method_30_code 3 none ∈ gTs := tw_b (List.mem_of_getElem? (i := 84) rfl) rfl
theorem tw_325 : Cond.methodLink "StageMachine$Player" 139 ⟨"StageMachine$Pages", "copy", "(II)V"⟩ ∈ gTs := tw_b (List.mem_of_getElem? (i := 85) rfl) rfl
theorem tw_326 : Cond.instanceMethod ⟨"StageMachine$Pages", "copy", "(II)V"⟩ ∈ gTs := tw_b (List.mem_of_getElem? (i := 86) rfl) rfl
theorem tw_327 : Cond.selects "StageMachine$Pages" ⟨"StageMachine$Pages", "copy", "(II)V"⟩ ⟨"StageMachine$Pages", "copy", "(II)V"⟩ ∈ gTs := tw_b (List.mem_of_getElem? (i := 87) rfl) rfl
theorem tw_328 : Cond.code ⟨"StageMachine$Pages", "copy", "(II)V"⟩ prog_4_method_5_code 3 none ∈ gTs := tw_b (List.mem_of_getElem? (i := 88) rfl) rfl
theorem tw_329 : Cond.methodLink "StageMachine$Pages" 28 ⟨"java/lang/System", "arraycopy", "(Ljava/lang/Object;ILjava/lang/Object;II)V"⟩ ∈ gTs := tw_b (List.mem_of_getElem? (i := 89) rfl) rfl
theorem tw_330 : Cond.static ⟨"java/lang/System", "arraycopy", "(Ljava/lang/Object;ILjava/lang/Object;II)V"⟩ ∈ gTs := tw_b (List.mem_of_getElem? (i := 90) rfl) rfl
theorem tw_331 : Cond.native ⟨"java/lang/System", "arraycopy", "(Ljava/lang/Object;ILjava/lang/Object;II)V"⟩ ∈ gTs := tw_b (List.mem_of_getElem? (i := 91) rfl) rfl
theorem tw_332 : Cond.methodLink "StageMachine$Player" 86 ⟨"StageMachine$Player", "draw", "()V"⟩ ∈ gTs := tw_b (List.mem_of_getElem? (i := 92) rfl) rfl
theorem tw_334 : Cond.instanceMethod ⟨"StageMachine$Player", "draw", "()V"⟩ ∈ gTs := tw_b (List.mem_of_getElem? (i := 94) rfl) rfl
theorem tw_335 : Cond.code ⟨"StageMachine$Player", "draw", "()V"⟩ prog_6_method_14_code 6 none ∈ gTs := tw_b (List.mem_of_getElem? (i := 95) rfl) rfl
theorem tw_336 : Cond.methodLinkNest "StageMachine$Player" 148 ⟨"StageMachine$Painter", "drawShape", "(IIIIII)V"⟩ "StageMachine" ∈ gTs := tw_b (List.mem_of_getElem? (i := 96) rfl) rfl
theorem tw_338 : Cond.instanceMethod ⟨"StageMachine$Painter", "drawShape", "(IIIIII)V"⟩ ∈ gTs := tw_b (List.mem_of_getElem? (i := 98) rfl) rfl
theorem tw_339 : Cond.code ⟨"StageMachine$Painter", "drawShape", "(IIIIII)V"⟩ prog_5_method_3_code 8 none ∈ gTs := tw_b (List.mem_of_getElem? (i := 99) rfl) rfl
theorem tw_340 : Cond.methodLink "StageMachine$Painter" 45 ⟨"StageMachine$Bytes", "read", "(I)I"⟩ ∈ gTs := tw_b (List.mem_of_getElem? (i := 100) rfl) rfl
theorem tw_341 : Cond.methodLink "StageMachine$Painter" 49 ⟨"StageMachine$Painter", "placePairs", "(IIII)V"⟩ ∈ gTs := tw_b (List.mem_of_getElem? (i := 101) rfl) rfl
theorem tw_343 : Cond.instanceMethod ⟨"StageMachine$Painter", "placePairs", "(IIII)V"⟩ ∈ gTs := tw_b (List.mem_of_getElem? (i := 103) rfl) rfl
theorem tw_344 : Cond.code ⟨"StageMachine$Painter", "placePairs", "(IIII)V"⟩ prog_5_method_5_code 10 none ∈ gTs := tw_b (List.mem_of_getElem? (i := 104) rfl) rfl
theorem tw_345 : Cond.methodLink "StageMachine$Painter" 61 ⟨"StageMachine$Painter", "scaled", "(II)I"⟩ ∈ gTs := tw_b (List.mem_of_getElem? (i := 105) rfl) rfl
theorem tw_346 : Cond.static ⟨"StageMachine$Painter", "scaled", "(II)I"⟩ ∈ gTs := tw_b (List.mem_of_getElem? (i := 106) rfl) rfl
theorem tw_347 : Cond.code ⟨"StageMachine$Painter", "scaled", "(II)I"⟩ prog_5_method_9_code 2 (some .int) ∈ gTs := tw_b (List.mem_of_getElem? (i := 107) rfl) rfl
theorem tw_348 : Cond.methodLink "StageMachine$Painter" 72 ⟨"java/lang/Math", "floorDiv", "(II)I"⟩ ∈ gTs := tw_b (List.mem_of_getElem? (i := 108) rfl) rfl
theorem tw_349 : Cond.static ⟨"java/lang/Math", "floorDiv", "(II)I"⟩ ∈ gTs := tw_b (List.mem_of_getElem? (i := 109) rfl) rfl
theorem tw_350 : Cond.code ⟨"java/lang/Math", "floorDiv", "(II)I"⟩ prog_9_method_47_code 3 (some .int) ∈ gTs := tw_b (List.mem_of_getElem? (i := 110) rfl) rfl
theorem tw_351 : Cond.methodLink "StageMachine$Painter" 53 ⟨"StageMachine$Painter", "drawPolygon", "(II)V"⟩ ∈ gTs := tw_b (List.mem_of_getElem? (i := 111) rfl) rfl
theorem tw_353 : Cond.instanceMethod ⟨"StageMachine$Painter", "drawPolygon", "(II)V"⟩ ∈ gTs := tw_b (List.mem_of_getElem? (i := 113) rfl) rfl
theorem tw_354 : Cond.code ⟨"StageMachine$Painter", "drawPolygon", "(II)V"⟩ prog_5_method_6_code 5 none ∈ gTs := tw_b (List.mem_of_getElem? (i := 114) rfl) rfl
theorem tw_355 : Cond.methodLink "StageMachine$Painter" 77 ⟨"StageMachine$Painter", "drawRows", "(III)V"⟩ ∈ gTs := tw_b (List.mem_of_getElem? (i := 115) rfl) rfl
theorem tw_357 : Cond.instanceMethod ⟨"StageMachine$Painter", "drawRows", "(III)V"⟩ ∈ gTs := tw_b (List.mem_of_getElem? (i := 117) rfl) rfl
theorem tw_358 : Cond.code ⟨"StageMachine$Painter", "drawRows", "(III)V"⟩ prog_5_method_7_code 15 none ∈ gTs := tw_b (List.mem_of_getElem? (i := 118) rfl) rfl
theorem tw_359 : Cond.constantLong "StageMachine$Painter" 81 (65536 : Int64) ∈ gTs := tw_b (List.mem_of_getElem? (i := 119) rfl) rfl
theorem tw_360 : Cond.methodLink "StageMachine$Painter" 83 ⟨"java/lang/Math", "floorDiv", "(JJ)J"⟩ ∈ gTs := tw_b (List.mem_of_getElem? (i := 120) rfl) rfl
theorem tw_361 : Cond.static ⟨"java/lang/Math", "floorDiv", "(JJ)J"⟩ ∈ gTs := tw_b (List.mem_of_getElem? (i := 121) rfl) rfl
theorem tw_362 : Cond.code ⟨"java/lang/Math", "floorDiv", "(JJ)J"⟩ prog_9_method_49_code 6 (some .long) ∈ gTs := tw_b (List.mem_of_getElem? (i := 122) rfl) rfl
theorem tw_363 : Cond.methodLink "StageMachine$Painter" 86 ⟨"java/lang/Math", "max", "(II)I"⟩ ∈ gTs := tw_b (List.mem_of_getElem? (i := 123) rfl) rfl
theorem tw_364 : Cond.static ⟨"java/lang/Math", "max", "(II)I"⟩ ∈ gTs := tw_b (List.mem_of_getElem? (i := 124) rfl) rfl
theorem tw_365 : Cond.code ⟨"java/lang/Math", "max", "(II)I"⟩ prog_9_method_65_code 2 (some .int) ∈ gTs := tw_b (List.mem_of_getElem? (i := 125) rfl) rfl
theorem tw_366 : Cond.methodLink "StageMachine$Painter" 89 ⟨"java/lang/Math", "min", "(II)I"⟩ ∈ gTs := tw_b (List.mem_of_getElem? (i := 126) rfl) rfl
theorem tw_367 : Cond.static ⟨"java/lang/Math", "min", "(II)I"⟩ ∈ gTs := tw_b (List.mem_of_getElem? (i := 127) rfl) rfl
theorem tw_368 : Cond.code ⟨"java/lang/Math", "min", "(II)I"⟩ prog_9_method_69_code 2 (some .int) ∈ gTs := tw_b (List.mem_of_getElem? (i := 128) rfl) rfl
theorem tw_369 : Cond.methodLink "StageMachine$Painter" 92 ⟨"StageMachine$Painter", "edgeAt", "(IJI)I"⟩ ∈ gTs := tw_b (List.mem_of_getElem? (i := 129) rfl) rfl
theorem tw_370 : Cond.static ⟨"StageMachine$Painter", "edgeAt", "(IJI)I"⟩ ∈ gTs := tw_b (List.mem_of_getElem? (i := 130) rfl) rfl
theorem tw_371 : Cond.code ⟨"StageMachine$Painter", "edgeAt", "(IJI)I"⟩ prog_5_method_8_code 4 (some .int) ∈ gTs := tw_b (List.mem_of_getElem? (i := 131) rfl) rfl
theorem tw_372 : Cond.constantLong "StageMachine$Painter" 109 (32768 : Int64) ∈ gTs := tw_b (List.mem_of_getElem? (i := 132) rfl) rfl
theorem tw_373 : Cond.methodLink "StageMachine$Painter" 96 ⟨"StageMachine$Pages", "startOfRow", "(I)I"⟩ ∈ gTs := tw_b (List.mem_of_getElem? (i := 133) rfl) rfl
theorem tw_374 : Cond.instanceMethod ⟨"StageMachine$Pages", "startOfRow", "(I)I"⟩ ∈ gTs := tw_b (List.mem_of_getElem? (i := 134) rfl) rfl
theorem tw_375 : Cond.selects "StageMachine$Pages" ⟨"StageMachine$Pages", "startOfRow", "(I)I"⟩ ⟨"StageMachine$Pages", "startOfRow", "(I)I"⟩ ∈ gTs := tw_b (List.mem_of_getElem? (i := 135) rfl) rfl
theorem tw_376 : Cond.code ⟨"StageMachine$Pages", "startOfRow", "(I)I"⟩ prog_4_method_6_code 2 (some .int) ∈ gTs := tw_b (List.mem_of_getElem? (i := 136) rfl) rfl
theorem tw_377 : Cond.methodLink "StageMachine$Painter" 103 ⟨"java/util/Arrays", "fill", "([BIIB)V"⟩ ∈ gTs := tw_b (List.mem_of_getElem? (i := 137) rfl) rfl
theorem tw_378 : Cond.methodLink "StageMachine$Painter" 57 ⟨"StageMachine$Painter", "drawGroup", "(IIIIII)V"⟩ ∈ gTs := tw_b (List.mem_of_getElem? (i := 138) rfl) rfl
theorem tw_380 : Cond.instanceMethod ⟨"StageMachine$Painter", "drawGroup", "(IIIIII)V"⟩ ∈ gTs := tw_b (List.mem_of_getElem? (i := 140) rfl) rfl
theorem tw_381 : Cond.code ⟨"StageMachine$Painter", "drawGroup", "(IIIIII)V"⟩ prog_5_method_4_code 17 none ∈ gTs := tw_b (List.mem_of_getElem? (i := 141) rfl) rfl
theorem tw_382 : Cond.methodLink "StageMachine$Painter" 65 ⟨"StageMachine$Bytes", "readPair", "(I)I"⟩ ∈ gTs := tw_b (List.mem_of_getElem? (i := 142) rfl) rfl
theorem tw_383 : Cond.constant "StageMachine$Painter" 68 (32768 : Int32) ∈ gTs := tw_b (List.mem_of_getElem? (i := 143) rfl) rfl
theorem tw_384 : Cond.methodLink "StageMachine$Painter" 69 ⟨"StageMachine$Painter", "drawShape", "(IIIIII)V"⟩ ∈ gTs := tw_b (List.mem_of_getElem? (i := 144) rfl) rfl
theorem tw_385 : Cond.methodLink "StageMachineLaw" 41 ⟨"StageMachine", "channel", "(II)I"⟩ ∈ gTs := tw_b (List.mem_of_getElem? (i := 145) rfl) rfl
theorem tw_386 : Cond.instanceMethod ⟨"StageMachine", "channel", "(II)I"⟩ ∈ gTs := tw_b (List.mem_of_getElem? (i := 146) rfl) rfl
theorem tw_387 : Cond.selects "StageMachine" ⟨"StageMachine", "channel", "(II)I"⟩ ⟨"StageMachine", "channel", "(II)I"⟩ ∈ gTs := tw_b (List.mem_of_getElem? (i := 147) rfl) rfl
theorem tw_388 : Cond.code ⟨"StageMachine", "channel", "(II)I"⟩ prog_1_method_8_code 4 (some .int) ∈ gTs := tw_b (List.mem_of_getElem? (i := 148) rfl) rfl
theorem tw_389 : Cond.methodLink "StageMachineLaw" 45 ⟨"StageMachine", "pixel", "(III)I"⟩ ∈ gTs := tw_b (List.mem_of_getElem? (i := 149) rfl) rfl
theorem tw_390 : Cond.instanceMethod ⟨"StageMachine", "pixel", "(III)I"⟩ ∈ gTs := tw_b (List.mem_of_getElem? (i := 150) rfl) rfl
theorem tw_391 : Cond.selects "StageMachine" ⟨"StageMachine", "pixel", "(III)I"⟩ ⟨"StageMachine", "pixel", "(III)I"⟩ ∈ gTs := tw_b (List.mem_of_getElem? (i := 151) rfl) rfl
theorem tw_392 : Cond.code ⟨"StageMachine", "pixel", "(III)I"⟩ prog_1_method_9_code 4 (some .int) ∈ gTs := tw_b (List.mem_of_getElem? (i := 152) rfl) rfl
theorem tw_393 : Cond.methodLink "StageMachine" 91 ⟨"StageMachine$Pages", "colourAt", "(III)I"⟩ ∈ gTs := tw_b (List.mem_of_getElem? (i := 153) rfl) rfl
theorem tw_394 : Cond.instanceMethod ⟨"StageMachine$Pages", "colourAt", "(III)I"⟩ ∈ gTs := tw_b (List.mem_of_getElem? (i := 154) rfl) rfl
theorem tw_395 : Cond.selects "StageMachine$Pages" ⟨"StageMachine$Pages", "colourAt", "(III)I"⟩ ⟨"StageMachine$Pages", "colourAt", "(III)I"⟩ ∈ gTs := tw_b (List.mem_of_getElem? (i := 155) rfl) rfl
theorem tw_396 : Cond.code ⟨"StageMachine$Pages", "colourAt", "(III)I"⟩ prog_4_method_3_code 4 (some .int) ∈ gTs := tw_b (List.mem_of_getElem? (i := 156) rfl) rfl
theorem tw_397 : Cond.methodLink "StageMachineLaw" 50 ⟨"StageMachine", "about", "(I)I"⟩ ∈ gTs := tw_b (List.mem_of_getElem? (i := 157) rfl) rfl
theorem tw_398 : Cond.instanceMethod ⟨"StageMachine", "about", "(I)I"⟩ ∈ gTs := tw_b (List.mem_of_getElem? (i := 158) rfl) rfl
theorem tw_399 : Cond.selects "StageMachine" ⟨"StageMachine", "about", "(I)I"⟩ ⟨"StageMachine", "about", "(I)I"⟩ ∈ gTs := tw_b (List.mem_of_getElem? (i := 159) rfl) rfl
theorem tw_400 : Cond.code ⟨"StageMachine", "about", "(I)I"⟩ prog_1_method_10_code 2 (some .int) ∈ gTs := tw_b (List.mem_of_getElem? (i := 160) rfl) rfl
theorem tw_401 : Cond.classLink "StageMachineLaw" 10 "StageMachineModel" ∈ gTs := tw_b (List.mem_of_getElem? (i := 161) rfl) rfl
theorem tw_402 : Cond.instantiable "StageMachineModel" 33 ∈ gTs := tw_b (List.mem_of_getElem? (i := 162) rfl) rfl
theorem tw_403 : Cond.methodLink "StageMachineLaw" 12 ⟨"StageMachineModel", "<init>", "()V"⟩ ∈ gTs := tw_b (List.mem_of_getElem? (i := 163) rfl) rfl
theorem tw_404 : Cond.instanceMethod ⟨"StageMachineModel", "<init>", "()V"⟩ ∈ gTs := tw_b (List.mem_of_getElem? (i := 164) rfl) rfl
theorem tw_405 : Cond.code ⟨"StageMachineModel", "<init>", "()V"⟩ prog_8_method_1_code 2 none ∈ gTs := tw_b (List.mem_of_getElem? (i := 165) rfl) rfl
theorem tw_406 : Cond.methodLink "StageMachineModel" 1 ⟨"java/lang/Object", "<init>", "()V"⟩ ∈ gTs := tw_b (List.mem_of_getElem? (i := 166) rfl) rfl
theorem tw_407 : Cond.fieldLink "StageMachineModel" 7 "StageMachineModel" "program" "[I" ∈ gTs := tw_b (List.mem_of_getElem? (i := 167) rfl) rfl
theorem tw_408 : Cond.fieldLink "StageMachineModel" 13 "StageMachineModel" "shapes" "[I" ∈ gTs := tw_b (List.mem_of_getElem? (i := 168) rfl) rfl
theorem tw_409 : Cond.fieldLink "StageMachineModel" 16 "StageMachineModel" "variable" "[I" ∈ gTs := tw_b (List.mem_of_getElem? (i := 169) rfl) rfl
theorem tw_410 : Cond.fieldLink "StageMachineModel" 19 "StageMachineModel" "pixels" "[B" ∈ gTs := tw_b (List.mem_of_getElem? (i := 170) rfl) rfl
theorem tw_411 : Cond.fieldLink "StageMachineModel" 91 "StageMachineModel" "working" "I" ∈ gTs := tw_b (List.mem_of_getElem? (i := 171) rfl) rfl
theorem tw_412 : Cond.fieldLink "StageMachineModel" 88 "StageMachineModel" "shown" "I" ∈ gTs := tw_b (List.mem_of_getElem? (i := 172) rfl) rfl
theorem tw_413 : Cond.fieldLink "StageMachineModel" 23 "StageMachineModel" "address" "[I" ∈ gTs := tw_b (List.mem_of_getElem? (i := 173) rfl) rfl
theorem tw_414 : Cond.fieldLink "StageMachineModel" 26 "StageMachineModel" "many" "[I" ∈ gTs := tw_b (List.mem_of_getElem? (i := 174) rfl) rfl
theorem tw_415 : Cond.fieldLink "StageMachineModel" 29 "StageMachineModel" "faults" "[I" ∈ gTs := tw_b (List.mem_of_getElem? (i := 175) rfl) rfl
theorem tw_416 : Cond.fieldLink "StageMachineModel" 32 "StageMachineModel" "asked" "[I" ∈ gTs := tw_b (List.mem_of_getElem? (i := 176) rfl) rfl
theorem tw_417 : Cond.fieldLink "StageMachineModel" 35 "StageMachineModel" "askedPause" "[I" ∈ gTs := tw_b (List.mem_of_getElem? (i := 177) rfl) rfl
theorem tw_418 : Cond.fieldLink "StageMachineModel" 38 "StageMachineModel" "paused" "[Z" ∈ gTs := tw_b (List.mem_of_getElem? (i := 178) rfl) rfl
theorem tw_419 : Cond.fieldLink "StageMachineModel" 42 "StageMachineModel" "pile" "[I" ∈ gTs := tw_b (List.mem_of_getElem? (i := 179) rfl) rfl
theorem tw_420 : Cond.fieldLink "StageMachineModel" 159 "StageMachineModel" "frames" "I" ∈ gTs := tw_b (List.mem_of_getElem? (i := 180) rfl) rfl
theorem tw_421 : Cond.fieldLink "StageMachineModel" 123 "StageMachineModel" "done" "I" ∈ gTs := tw_b (List.mem_of_getElem? (i := 181) rfl) rfl
theorem tw_422 : Cond.fieldLink "StageMachineModel" 162 "StageMachineModel" "rows" "I" ∈ gTs := tw_b (List.mem_of_getElem? (i := 182) rfl) rfl
theorem tw_423 : Cond.fieldLink "StageMachineModel" 165 "StageMachineModel" "begun" "I" ∈ gTs := tw_b (List.mem_of_getElem? (i := 183) rfl) rfl
theorem tw_424 : Cond.fieldLink "StageMachineModel" 110 "StageMachineModel" "who" "I" ∈ gTs := tw_b (List.mem_of_getElem? (i := 184) rfl) rfl
theorem tw_425 : Cond.fieldLink "StageMachineModel" 77 "StageMachineModel" "at" "I" ∈ gTs := tw_b (List.mem_of_getElem? (i := 185) rfl) rfl
theorem tw_426 : Cond.fieldLink "StageMachineModel" 94 "StageMachineModel" "fault" "I" ∈ gTs := tw_b (List.mem_of_getElem? (i := 186) rfl) rfl
theorem tw_427 : Cond.fieldLink "StageMachineModel" 97 "StageMachineModel" "on" "Z" ∈ gTs := tw_b (List.mem_of_getElem? (i := 187) rfl) rfl
theorem tw_428 : Cond.fieldLink "StageMachineModel" 190 "StageMachineModel" "drawn" "I" ∈ gTs := tw_b (List.mem_of_getElem? (i := 188) rfl) rfl
theorem tw_429 : Cond.fieldLink "StageMachineModel" 178 "StageMachineModel" "zoom" "I" ∈ gTs := tw_b (List.mem_of_getElem? (i := 189) rfl) rfl
theorem tw_430 : Cond.fieldLink "StageMachineModel" 187 "StageMachineModel" "parts" "I" ∈ gTs := tw_b (List.mem_of_getElem? (i := 190) rfl) rfl
theorem tw_431 : Cond.fieldLink "StageMachineModel" 45 "StageMachineModel" "partAt" "[I" ∈ gTs := tw_b (List.mem_of_getElem? (i := 191) rfl) rfl
theorem tw_432 : Cond.fieldLink "StageMachineModel" 48 "StageMachineModel" "partX" "[I" ∈ gTs := tw_b (List.mem_of_getElem? (i := 192) rfl) rfl
theorem tw_433 : Cond.fieldLink "StageMachineModel" 51 "StageMachineModel" "partY" "[I" ∈ gTs := tw_b (List.mem_of_getElem? (i := 193) rfl) rfl
theorem tw_434 : Cond.fieldLink "StageMachineModel" 54 "StageMachineModel" "partColour" "[I" ∈ gTs := tw_b (List.mem_of_getElem? (i := 194) rfl) rfl
theorem tw_435 : Cond.fieldLink "StageMachineModel" 57 "StageMachineModel" "partWithin" "[I" ∈ gTs := tw_b (List.mem_of_getElem? (i := 195) rfl) rfl
theorem tw_436 : Cond.fieldLink "StageMachineModel" 175 "StageMachineModel" "reading" "I" ∈ gTs := tw_b (List.mem_of_getElem? (i := 196) rfl) rfl
theorem tw_437 : Cond.fieldLink "StageMachineModel" 60 "StageMachineModel" "right" "[I" ∈ gTs := tw_b (List.mem_of_getElem? (i := 197) rfl) rfl
theorem tw_438 : Cond.fieldLink "StageMachineModel" 63 "StageMachineModel" "left" "[I" ∈ gTs := tw_b (List.mem_of_getElem? (i := 198) rfl) rfl
theorem tw_439 : Cond.fieldLink "StageMachineModel" 66 "StageMachineModel" "high" "[I" ∈ gTs := tw_b (List.mem_of_getElem? (i := 199) rfl) rfl
theorem tw_440 : Cond.laysFinal "StageMachineModel" "StageMachineModel" "program" "[I" ∈ gTs := tw_b (List.mem_of_getElem? (i := 200) rfl) rfl
theorem tw_442 : Cond.laysFinal "StageMachineModel" "StageMachineModel" "shapes" "[I" ∈ gTs := tw_b (List.mem_of_getElem? (i := 202) rfl) rfl
theorem tw_444 : Cond.laysFinal "StageMachineModel" "StageMachineModel" "variable" "[I" ∈ gTs := tw_b (List.mem_of_getElem? (i := 204) rfl) rfl
theorem tw_446 : Cond.laysFinal "StageMachineModel" "StageMachineModel" "pixels" "[B" ∈ gTs := tw_b (List.mem_of_getElem? (i := 206) rfl) rfl
theorem tw_448 : Cond.lays "StageMachineModel" "StageMachineModel" "working" "I" ∈ gTs := tw_b (List.mem_of_getElem? (i := 208) rfl) rfl
theorem tw_450 : Cond.lays "StageMachineModel" "StageMachineModel" "shown" "I" ∈ gTs := tw_b (List.mem_of_getElem? (i := 210) rfl) rfl
theorem tw_452 : Cond.laysFinal "StageMachineModel" "StageMachineModel" "address" "[I" ∈ gTs := tw_b (List.mem_of_getElem? (i := 212) rfl) rfl
theorem tw_454 : Cond.laysFinal "StageMachineModel" "StageMachineModel" "many" "[I" ∈ gTs := tw_b (List.mem_of_getElem? (i := 214) rfl) rfl
theorem tw_456 : Cond.laysFinal "StageMachineModel" "StageMachineModel" "faults" "[I" ∈ gTs := tw_b (List.mem_of_getElem? (i := 216) rfl) rfl
theorem tw_458 : Cond.laysFinal "StageMachineModel" "StageMachineModel" "asked" "[I" ∈ gTs := tw_b (List.mem_of_getElem? (i := 218) rfl) rfl
theorem tw_460 : Cond.laysFinal "StageMachineModel" "StageMachineModel" "askedPause" "[I" ∈ gTs := tw_b (List.mem_of_getElem? (i := 220) rfl) rfl
theorem tw_462 : Cond.laysFinal "StageMachineModel" "StageMachineModel" "paused" "[Z" ∈ gTs := tw_b (List.mem_of_getElem? (i := 222) rfl) rfl
theorem tw_464 : Cond.laysFinal "StageMachineModel" "StageMachineModel" "pile" "[I" ∈ gTs := tw_b (List.mem_of_getElem? (i := 224) rfl) rfl
theorem tw_466 : Cond.lays "StageMachineModel" "StageMachineModel" "frames" "I" ∈ gTs := tw_b (List.mem_of_getElem? (i := 226) rfl) rfl
theorem tw_468 : Cond.lays "StageMachineModel" "StageMachineModel" "done" "I" ∈ gTs := tw_b (List.mem_of_getElem? (i := 228) rfl) rfl
theorem tw_470 : Cond.lays "StageMachineModel" "StageMachineModel" "rows" "I" ∈ gTs := tw_b (List.mem_of_getElem? (i := 230) rfl) rfl
theorem tw_472 : Cond.lays "StageMachineModel" "StageMachineModel" "begun" "I" ∈ gTs := tw_b (List.mem_of_getElem? (i := 232) rfl) rfl
theorem tw_474 : Cond.lays "StageMachineModel" "StageMachineModel" "who" "I" ∈ gTs := tw_b (List.mem_of_getElem? (i := 234) rfl) rfl
theorem tw_476 : Cond.lays "StageMachineModel" "StageMachineModel" "at" "I" ∈ gTs := tw_b (List.mem_of_getElem? (i := 236) rfl) rfl
theorem tw_478 : Cond.lays "StageMachineModel" "StageMachineModel" "fault" "I" ∈ gTs := tw_b (List.mem_of_getElem? (i := 238) rfl) rfl
theorem tw_480 : Cond.lays "StageMachineModel" "StageMachineModel" "on" "Z" ∈ gTs := tw_c (List.mem_of_getElem? (i := 0) rfl) rfl
theorem tw_482 : Cond.lays "StageMachineModel" "StageMachineModel" "drawn" "I" ∈ gTs := tw_c (List.mem_of_getElem? (i := 2) rfl) rfl
theorem tw_484 : Cond.lays "StageMachineModel" "StageMachineModel" "zoom" "I" ∈ gTs := tw_c (List.mem_of_getElem? (i := 4) rfl) rfl
theorem tw_486 : Cond.lays "StageMachineModel" "StageMachineModel" "parts" "I" ∈ gTs := tw_c (List.mem_of_getElem? (i := 6) rfl) rfl
theorem tw_488 : Cond.laysFinal "StageMachineModel" "StageMachineModel" "partAt" "[I" ∈ gTs := tw_c (List.mem_of_getElem? (i := 8) rfl) rfl
theorem tw_490 : Cond.laysFinal "StageMachineModel" "StageMachineModel" "partX" "[I" ∈ gTs := tw_c (List.mem_of_getElem? (i := 10) rfl) rfl
theorem tw_492 : Cond.laysFinal "StageMachineModel" "StageMachineModel" "partY" "[I" ∈ gTs := tw_c (List.mem_of_getElem? (i := 12) rfl) rfl
theorem tw_494 : Cond.laysFinal "StageMachineModel" "StageMachineModel" "partColour" "[I" ∈ gTs := tw_c (List.mem_of_getElem? (i := 14) rfl) rfl
theorem tw_496 : Cond.laysFinal "StageMachineModel" "StageMachineModel" "partWithin" "[I" ∈ gTs := tw_c (List.mem_of_getElem? (i := 16) rfl) rfl
theorem tw_498 : Cond.lays "StageMachineModel" "StageMachineModel" "reading" "I" ∈ gTs := tw_c (List.mem_of_getElem? (i := 18) rfl) rfl
theorem tw_500 : Cond.laysFinal "StageMachineModel" "StageMachineModel" "right" "[I" ∈ gTs := tw_c (List.mem_of_getElem? (i := 20) rfl) rfl
theorem tw_502 : Cond.laysFinal "StageMachineModel" "StageMachineModel" "left" "[I" ∈ gTs := tw_c (List.mem_of_getElem? (i := 22) rfl) rfl
theorem tw_504 : Cond.laysFinal "StageMachineModel" "StageMachineModel" "high" "[I" ∈ gTs := tw_c (List.mem_of_getElem? (i := 24) rfl) rfl
theorem tw_506 : Cond.superclass "StageMachineModel" "java/lang/Object" ∈ gTs := tw_c (List.mem_of_getElem? (i := 26) rfl) rfl
theorem tw_507 : Cond.arrayClass .boolean ∈ gTs := tw_c (List.mem_of_getElem? (i := 27) rfl) rfl
theorem tw_508 : Cond.methodLink "StageMachineLaw" 17 ⟨"StageMachineModel", "put", "(III)Z"⟩ ∈ gTs := tw_c (List.mem_of_getElem? (i := 28) rfl) rfl
theorem tw_509 : Cond.instanceMethod ⟨"StageMachineModel", "put", "(III)Z"⟩ ∈ gTs := tw_c (List.mem_of_getElem? (i := 29) rfl) rfl
theorem tw_510 : Cond.selects "StageMachineModel" ⟨"StageMachineModel", "put", "(III)Z"⟩ ⟨"StageMachineModel", "put", "(III)Z"⟩ ∈ gTs := tw_c (List.mem_of_getElem? (i := 30) rfl) rfl
theorem tw_511 : Cond.code ⟨"StageMachineModel", "put", "(III)Z"⟩ prog_8_method_5_code 6 (some .boolean) ∈ gTs := tw_c (List.mem_of_getElem? (i := 31) rfl) rfl
theorem tw_512 : Cond.methodLink "StageMachineModel" 69 ⟨"StageMachineModel", "in", "(III)Z"⟩ ∈ gTs := tw_c (List.mem_of_getElem? (i := 32) rfl) rfl
theorem tw_513 : Cond.static ⟨"StageMachineModel", "in", "(III)Z"⟩ ∈ gTs := tw_c (List.mem_of_getElem? (i := 33) rfl) rfl
theorem tw_514 : Cond.code ⟨"StageMachineModel", "in", "(III)Z"⟩ prog_8_method_2_code 3 (some .boolean) ∈ gTs := tw_c (List.mem_of_getElem? (i := 34) rfl) rfl
theorem tw_515 : Cond.methodLink "StageMachineLaw" 22 ⟨"StageMachineModel", "byteAt", "(II)I"⟩ ∈ gTs := tw_c (List.mem_of_getElem? (i := 35) rfl) rfl
theorem tw_516 : Cond.instanceMethod ⟨"StageMachineModel", "byteAt", "(II)I"⟩ ∈ gTs := tw_c (List.mem_of_getElem? (i := 36) rfl) rfl
theorem tw_517 : Cond.selects "StageMachineModel" ⟨"StageMachineModel", "byteAt", "(II)I"⟩ ⟨"StageMachineModel", "byteAt", "(II)I"⟩ ∈ gTs := tw_c (List.mem_of_getElem? (i := 37) rfl) rfl
theorem tw_518 : Cond.code ⟨"StageMachineModel", "byteAt", "(II)I"⟩ prog_8_method_6_code 3 (some .int) ∈ gTs := tw_c (List.mem_of_getElem? (i := 38) rfl) rfl
theorem tw_519 : Cond.methodLink "StageMachineLaw" 27 ⟨"StageMachineModel", "set", "(II)Z"⟩ ∈ gTs := tw_c (List.mem_of_getElem? (i := 39) rfl) rfl
theorem tw_520 : Cond.instanceMethod ⟨"StageMachineModel", "set", "(II)Z"⟩ ∈ gTs := tw_c (List.mem_of_getElem? (i := 40) rfl) rfl
theorem tw_521 : Cond.selects "StageMachineModel" ⟨"StageMachineModel", "set", "(II)Z"⟩ ⟨"StageMachineModel", "set", "(II)Z"⟩ ∈ gTs := tw_c (List.mem_of_getElem? (i := 41) rfl) rfl
theorem tw_522 : Cond.code ⟨"StageMachineModel", "set", "(II)Z"⟩ prog_8_method_7_code 3 (some .boolean) ∈ gTs := tw_c (List.mem_of_getElem? (i := 42) rfl) rfl
theorem tw_523 : Cond.methodLink "StageMachineModel" 73 ⟨"StageMachineModel", "wrapped", "(I)I"⟩ ∈ gTs := tw_c (List.mem_of_getElem? (i := 43) rfl) rfl
theorem tw_524 : Cond.static ⟨"StageMachineModel", "wrapped", "(I)I"⟩ ∈ gTs := tw_c (List.mem_of_getElem? (i := 44) rfl) rfl
theorem tw_525 : Cond.code ⟨"StageMachineModel", "wrapped", "(I)I"⟩ prog_8_method_4_code 1 (some .int) ∈ gTs := tw_c (List.mem_of_getElem? (i := 45) rfl) rfl
theorem tw_526 : Cond.methodLink "StageMachineLaw" 32 ⟨"StageMachineModel", "get", "(I)I"⟩ ∈ gTs := tw_c (List.mem_of_getElem? (i := 46) rfl) rfl
theorem tw_527 : Cond.instanceMethod ⟨"StageMachineModel", "get", "(I)I"⟩ ∈ gTs := tw_c (List.mem_of_getElem? (i := 47) rfl) rfl
theorem tw_528 : Cond.selects "StageMachineModel" ⟨"StageMachineModel", "get", "(I)I"⟩ ⟨"StageMachineModel", "get", "(I)I"⟩ ∈ gTs := tw_c (List.mem_of_getElem? (i := 48) rfl) rfl
theorem tw_529 : Cond.code ⟨"StageMachineModel", "get", "(I)I"⟩ prog_8_method_8_code 2 (some .int) ∈ gTs := tw_c (List.mem_of_getElem? (i := 49) rfl) rfl
theorem tw_530 : Cond.methodLink "StageMachineLaw" 36 ⟨"StageMachineModel", "ask", "(II)Z"⟩ ∈ gTs := tw_c (List.mem_of_getElem? (i := 50) rfl) rfl
theorem tw_531 : Cond.instanceMethod ⟨"StageMachineModel", "ask", "(II)Z"⟩ ∈ gTs := tw_c (List.mem_of_getElem? (i := 51) rfl) rfl
theorem tw_532 : Cond.selects "StageMachineModel" ⟨"StageMachineModel", "ask", "(II)Z"⟩ ⟨"StageMachineModel", "ask", "(II)Z"⟩ ∈ gTs := tw_c (List.mem_of_getElem? (i := 52) rfl) rfl
theorem tw_533 : Cond.code ⟨"StageMachineModel", "ask", "(II)Z"⟩ prog_8_method_9_code 3 (some .boolean) ∈ gTs := tw_c (List.mem_of_getElem? (i := 53) rfl) rfl
theorem tw_534 : Cond.methodLink "StageMachineLaw" 40 ⟨"StageMachineModel", "frame", "(I)I"⟩ ∈ gTs := tw_c (List.mem_of_getElem? (i := 54) rfl) rfl
theorem tw_535 : Cond.instanceMethod ⟨"StageMachineModel", "frame", "(I)I"⟩ ∈ gTs := tw_c (List.mem_of_getElem? (i := 55) rfl) rfl
theorem tw_536 : Cond.selects "StageMachineModel" ⟨"StageMachineModel", "frame", "(I)I"⟩ ⟨"StageMachineModel", "frame", "(I)I"⟩ ∈ gTs := tw_c (List.mem_of_getElem? (i := 56) rfl) rfl
theorem tw_537 : Cond.code ⟨"StageMachineModel", "frame", "(I)I"⟩ prog_8_method_30_code 4 (some .int) ∈ gTs := tw_c (List.mem_of_getElem? (i := 57) rfl) rfl
theorem tw_538 : Cond.methodLink "StageMachineModel" 168 ⟨"StageMachineModel", "settle", "()V"⟩ ∈ gTs := tw_c (List.mem_of_getElem? (i := 58) rfl) rfl
theorem tw_540 : Cond.instanceMethod ⟨"StageMachineModel", "settle", "()V"⟩ ∈ gTs := tw_c (List.mem_of_getElem? (i := 60) rfl) rfl
theorem tw_541 : Cond.code ⟨"StageMachineModel", "settle", "()V"⟩ prog_8_method_29_code 2 none ∈ gTs := tw_c (List.mem_of_getElem? (i := 61) rfl) rfl
theorem tw_542 : Cond.methodLink "StageMachineModel" 171 ⟨"StageMachineModel", "turn", "(II)V"⟩ ∈ gTs := tw_c (List.mem_of_getElem? (i := 62) rfl) rfl
theorem tw_544 : Cond.instanceMethod ⟨"StageMachineModel", "turn", "(II)V"⟩ ∈ gTs := tw_c (List.mem_of_getElem? (i := 64) rfl) rfl
theorem tw_545 : Cond.code ⟨"StageMachineModel", "turn", "(II)V"⟩ prog_8_method_28_code 4 none ∈ gTs := tw_c (List.mem_of_getElem? (i := 65) rfl) rfl
theorem tw_546 : Cond.methodLink "StageMachineModel" 156 ⟨"StageMachineModel", "instruct", "()V"⟩ ∈ gTs := tw_c (List.mem_of_getElem? (i := 66) rfl) rfl
theorem tw_548 : Cond.instanceMethod ⟨"StageMachineModel", "instruct", "()V"⟩ ∈ gTs := tw_c (List.mem_of_getElem? (i := 68) rfl) rfl
theorem tw_549 : Cond.code ⟨"StageMachineModel", "instruct", "()V"⟩ prog_8_method_27_code 2 none ∈ gTs := tw_c (List.mem_of_getElem? (i := 69) rfl) rfl
theorem tw_550 : Cond.methodLink "StageMachineModel" 81 ⟨"StageMachineModel", "next", "()I"⟩ ∈ gTs := tw_c (List.mem_of_getElem? (i := 70) rfl) rfl
theorem tw_552 : Cond.instanceMethod ⟨"StageMachineModel", "next", "()I"⟩ ∈ gTs := tw_c (List.mem_of_getElem? (i := 72) rfl) rfl
theorem tw_553 : Cond.code ⟨"StageMachineModel", "next", "()I"⟩ prog_8_method_10_code 2 (some .int) ∈ gTs := tw_c (List.mem_of_getElem? (i := 73) rfl) rfl
theorem tw_554 : Cond.methodLink "StageMachineModel" 107 ⟨"StageMachineModel", "place", "()I"⟩ ∈ gTs := tw_c (List.mem_of_getElem? (i := 74) rfl) rfl
theorem tw_556 : Cond.instanceMethod ⟨"StageMachineModel", "place", "()I"⟩ ∈ gTs := tw_c (List.mem_of_getElem? (i := 76) rfl) rfl
theorem tw_557 : Cond.code ⟨"StageMachineModel", "place", "()I"⟩ prog_8_method_14_code 1 (some .int) ∈ gTs := tw_c (List.mem_of_getElem? (i := 77) rfl) rfl
theorem tw_558 : Cond.methodLink "StageMachineModel" 85 ⟨"StageMachineModel", "two", "()I"⟩ ∈ gTs := tw_c (List.mem_of_getElem? (i := 78) rfl) rfl
theorem tw_560 : Cond.instanceMethod ⟨"StageMachineModel", "two", "()I"⟩ ∈ gTs := tw_c (List.mem_of_getElem? (i := 80) rfl) rfl
theorem tw_561 : Cond.code ⟨"StageMachineModel", "two", "()I"⟩ prog_8_method_12_code 2 (some .int) ∈ gTs := tw_c (List.mem_of_getElem? (i := 81) rfl) rfl
theorem tw_562 : Cond.methodLink "StageMachineModel" 126 ⟨"StageMachineModel", "call", "()V"⟩ ∈ gTs := tw_c (List.mem_of_getElem? (i := 82) rfl) rfl
theorem tw_564 : Cond.instanceMethod ⟨"StageMachineModel", "call", "()V"⟩ ∈ gTs := tw_c (List.mem_of_getElem? (i := 84) rfl) rfl
theorem tw_565 : Cond.code ⟨"StageMachineModel", "call", "()V"⟩ prog_8_method_18_code 2 none ∈ gTs := tw_c (List.mem_of_getElem? (i := 85) rfl) rfl
theorem tw_566 : Cond.methodLink "StageMachineModel" 113 ⟨"StageMachineModel", "fails", "(I)V"⟩ ∈ gTs := tw_c (List.mem_of_getElem? (i := 86) rfl) rfl
theorem tw_568 : Cond.instanceMethod ⟨"StageMachineModel", "fails", "(I)V"⟩ ∈ gTs := tw_c (List.mem_of_getElem? (i := 88) rfl) rfl
theorem tw_569 : Cond.code ⟨"StageMachineModel", "fails", "(I)V"⟩ prog_8_method_16_code 2 none ∈ gTs := tw_c (List.mem_of_getElem? (i := 89) rfl) rfl
theorem tw_570 : Cond.methodLink "StageMachineModel" 129 ⟨"StageMachineModel", "back", "()V"⟩ ∈ gTs := tw_c (List.mem_of_getElem? (i := 90) rfl) rfl
theorem tw_572 : Cond.instanceMethod ⟨"StageMachineModel", "back", "()V"⟩ ∈ gTs := tw_c (List.mem_of_getElem? (i := 92) rfl) rfl
theorem tw_573 : Cond.code ⟨"StageMachineModel", "back", "()V"⟩ prog_8_method_19_code 1 none ∈ gTs := tw_c (List.mem_of_getElem? (i := 93) rfl) rfl
theorem tw_574 : Cond.methodLink "StageMachineModel" 132 ⟨"StageMachineModel", "loop", "()V"⟩ ∈ gTs := tw_c (List.mem_of_getElem? (i := 94) rfl) rfl
theorem tw_576 : Cond.instanceMethod ⟨"StageMachineModel", "loop", "()V"⟩ ∈ gTs := tw_c (List.mem_of_getElem? (i := 96) rfl) rfl
theorem tw_577 : Cond.code ⟨"StageMachineModel", "loop", "()V"⟩ prog_8_method_20_code 3 none ∈ gTs := tw_c (List.mem_of_getElem? (i := 97) rfl) rfl
theorem tw_578 : Cond.methodLink "StageMachineModel" 101 ⟨"StageMachineModel", "name", "()I"⟩ ∈ gTs := tw_c (List.mem_of_getElem? (i := 98) rfl) rfl
theorem tw_580 : Cond.instanceMethod ⟨"StageMachineModel", "name", "()I"⟩ ∈ gTs := tw_c (List.mem_of_getElem? (i := 100) rfl) rfl
theorem tw_581 : Cond.code ⟨"StageMachineModel", "name", "()I"⟩ prog_8_method_11_code 1 (some .int) ∈ gTs := tw_c (List.mem_of_getElem? (i := 101) rfl) rfl
theorem tw_582 : Cond.methodLink "StageMachineModel" 135 ⟨"StageMachineModel", "when", "()V"⟩ ∈ gTs := tw_c (List.mem_of_getElem? (i := 102) rfl) rfl
theorem tw_584 : Cond.instanceMethod ⟨"StageMachineModel", "when", "()V"⟩ ∈ gTs := tw_c (List.mem_of_getElem? (i := 104) rfl) rfl
theorem tw_585 : Cond.code ⟨"StageMachineModel", "when", "()V"⟩ prog_8_method_22_code 5 none ∈ gTs := tw_c (List.mem_of_getElem? (i := 105) rfl) rfl
theorem tw_586 : Cond.methodLink "StageMachineModel" 104 ⟨"StageMachineModel", "signed", "()I"⟩ ∈ gTs := tw_c (List.mem_of_getElem? (i := 106) rfl) rfl
theorem tw_588 : Cond.instanceMethod ⟨"StageMachineModel", "signed", "()I"⟩ ∈ gTs := tw_c (List.mem_of_getElem? (i := 108) rfl) rfl
theorem tw_589 : Cond.code ⟨"StageMachineModel", "signed", "()I"⟩ prog_8_method_13_code 1 (some .int) ∈ gTs := tw_c (List.mem_of_getElem? (i := 109) rfl) rfl
theorem tw_590 : Cond.methodLink "StageMachineModel" 117 ⟨"StageMachineModel", "compares", "(III)Z"⟩ ∈ gTs := tw_c (List.mem_of_getElem? (i := 110) rfl) rfl
theorem tw_591 : Cond.static ⟨"StageMachineModel", "compares", "(III)Z"⟩ ∈ gTs := tw_c (List.mem_of_getElem? (i := 111) rfl) rfl
theorem tw_592 : Cond.code ⟨"StageMachineModel", "compares", "(III)Z"⟩ prog_8_method_21_code 3 (some .boolean) ∈ gTs := tw_c (List.mem_of_getElem? (i := 112) rfl) rfl
theorem tw_593 : Cond.methodLink "StageMachineModel" 138 ⟨"StageMachineModel", "start", "()V"⟩ ∈ gTs := tw_c (List.mem_of_getElem? (i := 113) rfl) rfl
theorem tw_595 : Cond.instanceMethod ⟨"StageMachineModel", "start", "()V"⟩ ∈ gTs := tw_c (List.mem_of_getElem? (i := 115) rfl) rfl
theorem tw_596 : Cond.code ⟨"StageMachineModel", "start", "()V"⟩ prog_8_method_24_code 2 none ∈ gTs := tw_c (List.mem_of_getElem? (i := 116) rfl) rfl
theorem tw_597 : Cond.methodLink "StageMachineModel" 141 ⟨"StageMachineModel", "each", "()V"⟩ ∈ gTs := tw_c (List.mem_of_getElem? (i := 117) rfl) rfl
theorem tw_599 : Cond.instanceMethod ⟨"StageMachineModel", "each", "()V"⟩ ∈ gTs := tw_c (List.mem_of_getElem? (i := 119) rfl) rfl
theorem tw_600 : Cond.code ⟨"StageMachineModel", "each", "()V"⟩ prog_8_method_23_code 5 none ∈ gTs := tw_c (List.mem_of_getElem? (i := 120) rfl) rfl
theorem tw_601 : Cond.methodLink "StageMachineModel" 120 ⟨"StageMachineModel", "page", "()I"⟩ ∈ gTs := tw_c (List.mem_of_getElem? (i := 121) rfl) rfl
theorem tw_603 : Cond.instanceMethod ⟨"StageMachineModel", "page", "()I"⟩ ∈ gTs := tw_c (List.mem_of_getElem? (i := 123) rfl) rfl
theorem tw_604 : Cond.code ⟨"StageMachineModel", "page", "()I"⟩ prog_8_method_15_code 2 (some .int) ∈ gTs := tw_c (List.mem_of_getElem? (i := 124) rfl) rfl
theorem tw_605 : Cond.methodLink "StageMachineModel" 144 ⟨"StageMachineModel", "fill", "()V"⟩ ∈ gTs := tw_c (List.mem_of_getElem? (i := 125) rfl) rfl
theorem tw_607 : Cond.instanceMethod ⟨"StageMachineModel", "fill", "()V"⟩ ∈ gTs := tw_c (List.mem_of_getElem? (i := 127) rfl) rfl
theorem tw_608 : Cond.code ⟨"StageMachineModel", "fill", "()V"⟩ prog_8_method_25_code 4 none ∈ gTs := tw_c (List.mem_of_getElem? (i := 128) rfl) rfl
theorem tw_609 : Cond.methodLink "StageMachineModel" 147 ⟨"StageMachineModel", "copy", "()V"⟩ ∈ gTs := tw_c (List.mem_of_getElem? (i := 129) rfl) rfl
theorem tw_611 : Cond.instanceMethod ⟨"StageMachineModel", "copy", "()V"⟩ ∈ gTs := tw_c (List.mem_of_getElem? (i := 131) rfl) rfl
theorem tw_612 : Cond.code ⟨"StageMachineModel", "copy", "()V"⟩ prog_8_method_26_code 4 none ∈ gTs := tw_c (List.mem_of_getElem? (i := 132) rfl) rfl
theorem tw_613 : Cond.methodLink "StageMachineModel" 150 ⟨"StageMachineModel", "draw", "()V"⟩ ∈ gTs := tw_c (List.mem_of_getElem? (i := 133) rfl) rfl
theorem tw_615 : Cond.instanceMethod ⟨"StageMachineModel", "draw", "()V"⟩ ∈ gTs := tw_c (List.mem_of_getElem? (i := 135) rfl) rfl
theorem tw_616 : Cond.code ⟨"StageMachineModel", "draw", "()V"⟩ prog_8_method_34_code 5 none ∈ gTs := tw_c (List.mem_of_getElem? (i := 136) rfl) rfl
theorem tw_617 : Cond.methodLink "StageMachineModel" 193 ⟨"StageMachineModel", "lay", "(IIIII)V"⟩ ∈ gTs := tw_c (List.mem_of_getElem? (i := 137) rfl) rfl
theorem tw_619 : Cond.instanceMethod ⟨"StageMachineModel", "lay", "(IIIII)V"⟩ ∈ gTs := tw_c (List.mem_of_getElem? (i := 139) rfl) rfl
theorem tw_620 : Cond.code ⟨"StageMachineModel", "lay", "(IIIII)V"⟩ prog_8_method_33_code 6 none ∈ gTs := tw_c (List.mem_of_getElem? (i := 140) rfl) rfl
theorem tw_621 : Cond.methodLink "StageMachineModel" 197 ⟨"StageMachineModel", "begin", "(I)V"⟩ ∈ gTs := tw_c (List.mem_of_getElem? (i := 141) rfl) rfl
theorem tw_623 : Cond.instanceMethod ⟨"StageMachineModel", "begin", "(I)V"⟩ ∈ gTs := tw_c (List.mem_of_getElem? (i := 143) rfl) rfl
theorem tw_624 : Cond.code ⟨"StageMachineModel", "begin", "(I)V"⟩ prog_8_method_35_code 3 none ∈ gTs := tw_c (List.mem_of_getElem? (i := 144) rfl) rfl
theorem tw_625 : Cond.methodLink "StageMachineModel" 200 ⟨"StageMachineModel", "read", "()I"⟩ ∈ gTs := tw_c (List.mem_of_getElem? (i := 145) rfl) rfl
theorem tw_627 : Cond.instanceMethod ⟨"StageMachineModel", "read", "()I"⟩ ∈ gTs := tw_c (List.mem_of_getElem? (i := 147) rfl) rfl
theorem tw_628 : Cond.code ⟨"StageMachineModel", "read", "()I"⟩ prog_8_method_31_code 2 (some .int) ∈ gTs := tw_c (List.mem_of_getElem? (i := 148) rfl) rfl
theorem tw_629 : Cond.methodLink "StageMachineModel" 203 ⟨"StageMachineModel", "polygon", "(III)V"⟩ ∈ gTs := tw_c (List.mem_of_getElem? (i := 149) rfl) rfl
theorem tw_631 : Cond.instanceMethod ⟨"StageMachineModel", "polygon", "(III)V"⟩ ∈ gTs := tw_c (List.mem_of_getElem? (i := 151) rfl) rfl
theorem tw_632 : Cond.code ⟨"StageMachineModel", "polygon", "(III)V"⟩ prog_8_method_38_code 11 none ∈ gTs := tw_c (List.mem_of_getElem? (i := 152) rfl) rfl
theorem tw_633 : Cond.methodLink "StageMachineModel" 211 ⟨"StageMachineModel", "scaled", "(I)I"⟩ ∈ gTs := tw_c (List.mem_of_getElem? (i := 153) rfl) rfl
theorem tw_635 : Cond.instanceMethod ⟨"StageMachineModel", "scaled", "(I)I"⟩ ∈ gTs := tw_c (List.mem_of_getElem? (i := 155) rfl) rfl
theorem tw_636 : Cond.code ⟨"StageMachineModel", "scaled", "(I)I"⟩ prog_8_method_32_code 2 (some .int) ∈ gTs := tw_c (List.mem_of_getElem? (i := 156) rfl) rfl
theorem tw_637 : Cond.constantLong "StageMachineModel" 181 (64 : Int64) ∈ gTs := tw_c (List.mem_of_getElem? (i := 157) rfl) rfl
theorem tw_638 : Cond.methodLink "StageMachineModel" 183 ⟨"StageMachineModel", "div", "(JJ)J"⟩ ∈ gTs := tw_c (List.mem_of_getElem? (i := 158) rfl) rfl
theorem tw_639 : Cond.static ⟨"StageMachineModel", "div", "(JJ)J"⟩ ∈ gTs := tw_c (List.mem_of_getElem? (i := 159) rfl) rfl
theorem tw_640 : Cond.code ⟨"StageMachineModel", "div", "(JJ)J"⟩ prog_8_method_3_code 6 (some .long) ∈ gTs := tw_c (List.mem_of_getElem? (i := 160) rfl) rfl
theorem tw_641 : Cond.constantLong "StageMachineModel" 217 (2 : Int64) ∈ gTs := tw_c (List.mem_of_getElem? (i := 161) rfl) rfl
theorem tw_642 : Cond.methodLink "StageMachineModel" 219 ⟨"StageMachineModel", "line", "(III)V"⟩ ∈ gTs := tw_c (List.mem_of_getElem? (i := 162) rfl) rfl
theorem tw_644 : Cond.instanceMethod ⟨"StageMachineModel", "line", "(III)V"⟩ ∈ gTs := tw_c (List.mem_of_getElem? (i := 164) rfl) rfl
theorem tw_645 : Cond.code ⟨"StageMachineModel", "line", "(III)V"⟩ prog_8_method_40_code 12 none ∈ gTs := tw_c (List.mem_of_getElem? (i := 165) rfl) rfl
theorem tw_646 : Cond.methodLink "StageMachineModel" 226 ⟨"StageMachineModel", "side", "(IIII)J"⟩ ∈ gTs := tw_c (List.mem_of_getElem? (i := 166) rfl) rfl
theorem tw_647 : Cond.static ⟨"StageMachineModel", "side", "(IIII)J"⟩ ∈ gTs := tw_c (List.mem_of_getElem? (i := 167) rfl) rfl
theorem tw_648 : Cond.code ⟨"StageMachineModel", "side", "(IIII)J"⟩ prog_8_method_39_code 6 (some .long) ∈ gTs := tw_c (List.mem_of_getElem? (i := 168) rfl) rfl
theorem tw_649 : Cond.constantLong "StageMachineModel" 222 (65536 : Int64) ∈ gTs := tw_c (List.mem_of_getElem? (i := 169) rfl) rfl
theorem tw_650 : Cond.constantLong "StageMachineModel" 224 (32768 : Int64) ∈ gTs := tw_c (List.mem_of_getElem? (i := 170) rfl) rfl
theorem tw_651 : Cond.methodLink "StageMachineModel" 207 ⟨"StageMachineModel", "group", "(IIII)V"⟩ ∈ gTs := tw_c (List.mem_of_getElem? (i := 171) rfl) rfl
theorem tw_653 : Cond.instanceMethod ⟨"StageMachineModel", "group", "(IIII)V"⟩ ∈ gTs := tw_c (List.mem_of_getElem? (i := 173) rfl) rfl
theorem tw_654 : Cond.code ⟨"StageMachineModel", "group", "(IIII)V"⟩ prog_8_method_36_code 15 none ∈ gTs := tw_c (List.mem_of_getElem? (i := 174) rfl) rfl
theorem tw_655 : Cond.methodLink "StageMachineModel" 214 ⟨"StageMachineModel", "swap", "(II)V"⟩ ∈ gTs := tw_c (List.mem_of_getElem? (i := 175) rfl) rfl
theorem tw_657 : Cond.instanceMethod ⟨"StageMachineModel", "swap", "(II)V"⟩ ∈ gTs := tw_c (List.mem_of_getElem? (i := 177) rfl) rfl
theorem tw_658 : Cond.code ⟨"StageMachineModel", "swap", "(II)V"⟩ prog_8_method_37_code 7 none ∈ gTs := tw_c (List.mem_of_getElem? (i := 178) rfl) rfl
theorem tw_659 : Cond.methodLink "StageMachineModel" 153 ⟨"StageMachineModel", "reckon", "(I)V"⟩ ∈ gTs := tw_c (List.mem_of_getElem? (i := 179) rfl) rfl
theorem tw_661 : Cond.instanceMethod ⟨"StageMachineModel", "reckon", "(I)V"⟩ ∈ gTs := tw_c (List.mem_of_getElem? (i := 181) rfl) rfl
theorem tw_662 : Cond.code ⟨"StageMachineModel", "reckon", "(I)V"⟩ prog_8_method_17_code 5 none ∈ gTs := tw_c (List.mem_of_getElem? (i := 182) rfl) rfl
theorem tw_663 : Cond.methodLink "StageMachineLaw" 44 ⟨"StageMachineModel", "channel", "(II)I"⟩ ∈ gTs := tw_c (List.mem_of_getElem? (i := 183) rfl) rfl
theorem tw_664 : Cond.instanceMethod ⟨"StageMachineModel", "channel", "(II)I"⟩ ∈ gTs := tw_c (List.mem_of_getElem? (i := 184) rfl) rfl
theorem tw_665 : Cond.selects "StageMachineModel" ⟨"StageMachineModel", "channel", "(II)I"⟩ ⟨"StageMachineModel", "channel", "(II)I"⟩ ∈ gTs := tw_c (List.mem_of_getElem? (i := 185) rfl) rfl
theorem tw_666 : Cond.code ⟨"StageMachineModel", "channel", "(II)I"⟩ prog_8_method_41_code 3 (some .int) ∈ gTs := tw_c (List.mem_of_getElem? (i := 186) rfl) rfl
theorem tw_667 : Cond.methodLink "StageMachineLaw" 49 ⟨"StageMachineModel", "pixel", "(III)I"⟩ ∈ gTs := tw_c (List.mem_of_getElem? (i := 187) rfl) rfl
theorem tw_668 : Cond.instanceMethod ⟨"StageMachineModel", "pixel", "(III)I"⟩ ∈ gTs := tw_c (List.mem_of_getElem? (i := 188) rfl) rfl
theorem tw_669 : Cond.selects "StageMachineModel" ⟨"StageMachineModel", "pixel", "(III)I"⟩ ⟨"StageMachineModel", "pixel", "(III)I"⟩ ∈ gTs := tw_c (List.mem_of_getElem? (i := 189) rfl) rfl
theorem tw_670 : Cond.code ⟨"StageMachineModel", "pixel", "(III)I"⟩ prog_8_method_42_code 4 (some .int) ∈ gTs := tw_c (List.mem_of_getElem? (i := 190) rfl) rfl
theorem tw_671 : Cond.methodLink "StageMachineLaw" 53 ⟨"StageMachineModel", "about", "(I)I"⟩ ∈ gTs := tw_c (List.mem_of_getElem? (i := 191) rfl) rfl
theorem tw_672 : Cond.instanceMethod ⟨"StageMachineModel", "about", "(I)I"⟩ ∈ gTs := tw_c (List.mem_of_getElem? (i := 192) rfl) rfl
theorem tw_673 : Cond.selects "StageMachineModel" ⟨"StageMachineModel", "about", "(I)I"⟩ ⟨"StageMachineModel", "about", "(I)I"⟩ ∈ gTs := tw_c (List.mem_of_getElem? (i := 193) rfl) rfl
theorem tw_674 : Cond.code ⟨"StageMachineModel", "about", "(I)I"⟩ prog_8_method_43_code 2 (some .int) ∈ gTs := tw_c (List.mem_of_getElem? (i := 194) rfl) rfl
theorem tw_675 : Cond.selects "StageMachine" ⟨"StageMachine", "bytesOf", "(I)LStageMachine$Bytes;"⟩ ⟨"StageMachine", "bytesOf", "(I)LStageMachine$Bytes;"⟩ ∈ gTs := tw_p (List.mem_of_getElem? (i := 0) rfl) rfl
theorem tw_676 : Cond.selects "StageMachine$Player" ⟨"StageMachine$Player", "doInstruction", "(LStageMachine$Channel;)V"⟩ ⟨"StageMachine$Player", "doInstruction", "(LStageMachine$Channel;)V"⟩ ∈ gTs := tw_p (List.mem_of_getElem? (i := 1) rfl) rfl
theorem tw_677 : Cond.selects "StageMachine$Player" ⟨"StageMachine$Player", "nextByte", "()I"⟩ ⟨"StageMachine$Player", "nextByte", "()I"⟩ ∈ gTs := tw_p (List.mem_of_getElem? (i := 2) rfl) rfl
theorem tw_678 : Cond.selects "StageMachine$Player" ⟨"StageMachine$Player", "compute", "(I)V"⟩ ⟨"StageMachine$Player", "compute", "(I)V"⟩ ∈ gTs := tw_p (List.mem_of_getElem? (i := 3) rfl) rfl
theorem tw_679 : Cond.selects "StageMachine$Player" ⟨"StageMachine$Player", "nextVariable", "()I"⟩ ⟨"StageMachine$Player", "nextVariable", "()I"⟩ ∈ gTs := tw_p (List.mem_of_getElem? (i := 4) rfl) rfl
theorem tw_680 : Cond.selects "StageMachine$Player" ⟨"StageMachine$Player", "nextNumber", "()I"⟩ ⟨"StageMachine$Player", "nextNumber", "()I"⟩ ∈ gTs := tw_p (List.mem_of_getElem? (i := 5) rfl) rfl
theorem tw_681 : Cond.selects "StageMachine$Player" ⟨"StageMachine$Player", "nextPair", "()I"⟩ ⟨"StageMachine$Player", "nextPair", "()I"⟩ ∈ gTs := tw_p (List.mem_of_getElem? (i := 6) rfl) rfl
theorem tw_682 : Cond.selects "StageMachine$Player" ⟨"StageMachine$Player", "store", "(II)V"⟩ ⟨"StageMachine$Player", "store", "(II)V"⟩ ∈ gTs := tw_p (List.mem_of_getElem? (i := 7) rfl) rfl
theorem tw_683 : Cond.selects "StageMachine$Player" ⟨"StageMachine$Player", "nextAddress", "()I"⟩ ⟨"StageMachine$Player", "nextAddress", "()I"⟩ ∈ gTs := tw_p (List.mem_of_getElem? (i := 8) rfl) rfl
theorem tw_684 : Cond.selects "StageMachine$Player" ⟨"StageMachine$Player", "callAddress", "(LStageMachine$Channel;)V"⟩ ⟨"StageMachine$Player", "callAddress", "(LStageMachine$Channel;)V"⟩ ∈ gTs := tw_p (List.mem_of_getElem? (i := 9) rfl) rfl
theorem tw_685 : Cond.selects "StageMachine$Player" ⟨"StageMachine$Player", "fail", "(LStageMachine$Channel;I)V"⟩ ⟨"StageMachine$Player", "fail", "(LStageMachine$Channel;I)V"⟩ ∈ gTs := tw_p (List.mem_of_getElem? (i := 10) rfl) rfl
theorem tw_686 : Cond.selects "StageMachine$Player" ⟨"StageMachine$Player", "end", "()V"⟩ ⟨"StageMachine$Player", "end", "()V"⟩ ∈ gTs := tw_p (List.mem_of_getElem? (i := 11) rfl) rfl
theorem tw_687 : Cond.selects "StageMachine$Player" ⟨"StageMachine$Player", "comeBack", "(LStageMachine$Channel;)V"⟩ ⟨"StageMachine$Player", "comeBack", "(LStageMachine$Channel;)V"⟩ ∈ gTs := tw_p (List.mem_of_getElem? (i := 12) rfl) rfl
theorem tw_688 : Cond.selects "StageMachine$Player" ⟨"StageMachine$Player", "loop", "()V"⟩ ⟨"StageMachine$Player", "loop", "()V"⟩ ∈ gTs := tw_p (List.mem_of_getElem? (i := 13) rfl) rfl
theorem tw_689 : Cond.selects "StageMachine$Player" ⟨"StageMachine$Player", "jumpIf", "(LStageMachine$Channel;)V"⟩ ⟨"StageMachine$Player", "jumpIf", "(LStageMachine$Channel;)V"⟩ ∈ gTs := tw_p (List.mem_of_getElem? (i := 14) rfl) rfl
theorem tw_690 : Cond.selects "StageMachine$Player" ⟨"StageMachine$Player", "nextCompared", "(I)I"⟩ ⟨"StageMachine$Player", "nextCompared", "(I)I"⟩ ∈ gTs := tw_p (List.mem_of_getElem? (i := 15) rfl) rfl
theorem tw_691 : Cond.selects "StageMachine$Player" ⟨"StageMachine$Player", "startOther", "()V"⟩ ⟨"StageMachine$Player", "startOther", "()V"⟩ ∈ gTs := tw_p (List.mem_of_getElem? (i := 16) rfl) rfl
theorem tw_692 : Cond.selects "StageMachine$Player" ⟨"StageMachine$Player", "askOfEach", "(LStageMachine$Channel;)V"⟩ ⟨"StageMachine$Player", "askOfEach", "(LStageMachine$Channel;)V"⟩ ∈ gTs := tw_p (List.mem_of_getElem? (i := 17) rfl) rfl
theorem tw_693 : Cond.selects "StageMachine$Player" ⟨"StageMachine$Player", "handlePages", "(I)V"⟩ ⟨"StageMachine$Player", "handlePages", "(I)V"⟩ ∈ gTs := tw_p (List.mem_of_getElem? (i := 18) rfl) rfl
theorem tw_694 : Cond.selects "StageMachine$Player" ⟨"StageMachine$Player", "draw", "()V"⟩ ⟨"StageMachine$Player", "draw", "()V"⟩ ∈ gTs := tw_p (List.mem_of_getElem? (i := 19) rfl) rfl
theorem tw_695 : Cond.selects "StageMachine$Painter" ⟨"StageMachine$Painter", "drawShape", "(IIIIII)V"⟩ ⟨"StageMachine$Painter", "drawShape", "(IIIIII)V"⟩ ∈ gTs := tw_p (List.mem_of_getElem? (i := 20) rfl) rfl
theorem tw_696 : Cond.selects "StageMachine$Painter" ⟨"StageMachine$Painter", "placePairs", "(IIII)V"⟩ ⟨"StageMachine$Painter", "placePairs", "(IIII)V"⟩ ∈ gTs := tw_p (List.mem_of_getElem? (i := 21) rfl) rfl
theorem tw_697 : Cond.selects "StageMachine$Painter" ⟨"StageMachine$Painter", "drawPolygon", "(II)V"⟩ ⟨"StageMachine$Painter", "drawPolygon", "(II)V"⟩ ∈ gTs := tw_p (List.mem_of_getElem? (i := 22) rfl) rfl
theorem tw_698 : Cond.selects "StageMachine$Painter" ⟨"StageMachine$Painter", "drawRows", "(III)V"⟩ ⟨"StageMachine$Painter", "drawRows", "(III)V"⟩ ∈ gTs := tw_p (List.mem_of_getElem? (i := 23) rfl) rfl
theorem tw_699 : Cond.selects "StageMachine$Painter" ⟨"StageMachine$Painter", "drawGroup", "(IIIIII)V"⟩ ⟨"StageMachine$Painter", "drawGroup", "(IIIIII)V"⟩ ∈ gTs := tw_p (List.mem_of_getElem? (i := 24) rfl) rfl
theorem tw_700 : Cond.selects "StageMachineModel" ⟨"StageMachineModel", "settle", "()V"⟩ ⟨"StageMachineModel", "settle", "()V"⟩ ∈ gTs := tw_p (List.mem_of_getElem? (i := 25) rfl) rfl
theorem tw_701 : Cond.selects "StageMachineModel" ⟨"StageMachineModel", "turn", "(II)V"⟩ ⟨"StageMachineModel", "turn", "(II)V"⟩ ∈ gTs := tw_p (List.mem_of_getElem? (i := 26) rfl) rfl
theorem tw_702 : Cond.selects "StageMachineModel" ⟨"StageMachineModel", "instruct", "()V"⟩ ⟨"StageMachineModel", "instruct", "()V"⟩ ∈ gTs := tw_p (List.mem_of_getElem? (i := 27) rfl) rfl
theorem tw_703 : Cond.selects "StageMachineModel" ⟨"StageMachineModel", "next", "()I"⟩ ⟨"StageMachineModel", "next", "()I"⟩ ∈ gTs := tw_p (List.mem_of_getElem? (i := 28) rfl) rfl
theorem tw_704 : Cond.selects "StageMachineModel" ⟨"StageMachineModel", "place", "()I"⟩ ⟨"StageMachineModel", "place", "()I"⟩ ∈ gTs := tw_p (List.mem_of_getElem? (i := 29) rfl) rfl
theorem tw_705 : Cond.selects "StageMachineModel" ⟨"StageMachineModel", "two", "()I"⟩ ⟨"StageMachineModel", "two", "()I"⟩ ∈ gTs := tw_p (List.mem_of_getElem? (i := 30) rfl) rfl
theorem tw_706 : Cond.selects "StageMachineModel" ⟨"StageMachineModel", "call", "()V"⟩ ⟨"StageMachineModel", "call", "()V"⟩ ∈ gTs := tw_p (List.mem_of_getElem? (i := 31) rfl) rfl
theorem tw_707 : Cond.selects "StageMachineModel" ⟨"StageMachineModel", "fails", "(I)V"⟩ ⟨"StageMachineModel", "fails", "(I)V"⟩ ∈ gTs := tw_p (List.mem_of_getElem? (i := 32) rfl) rfl
theorem tw_708 : Cond.selects "StageMachineModel" ⟨"StageMachineModel", "back", "()V"⟩ ⟨"StageMachineModel", "back", "()V"⟩ ∈ gTs := tw_p (List.mem_of_getElem? (i := 33) rfl) rfl
theorem tw_709 : Cond.selects "StageMachineModel" ⟨"StageMachineModel", "loop", "()V"⟩ ⟨"StageMachineModel", "loop", "()V"⟩ ∈ gTs := tw_p (List.mem_of_getElem? (i := 34) rfl) rfl
theorem tw_710 : Cond.selects "StageMachineModel" ⟨"StageMachineModel", "name", "()I"⟩ ⟨"StageMachineModel", "name", "()I"⟩ ∈ gTs := tw_p (List.mem_of_getElem? (i := 35) rfl) rfl
theorem tw_711 : Cond.selects "StageMachineModel" ⟨"StageMachineModel", "when", "()V"⟩ ⟨"StageMachineModel", "when", "()V"⟩ ∈ gTs := tw_p (List.mem_of_getElem? (i := 36) rfl) rfl
theorem tw_712 : Cond.selects "StageMachineModel" ⟨"StageMachineModel", "signed", "()I"⟩ ⟨"StageMachineModel", "signed", "()I"⟩ ∈ gTs := tw_p (List.mem_of_getElem? (i := 37) rfl) rfl
theorem tw_713 : Cond.selects "StageMachineModel" ⟨"StageMachineModel", "start", "()V"⟩ ⟨"StageMachineModel", "start", "()V"⟩ ∈ gTs := tw_p (List.mem_of_getElem? (i := 38) rfl) rfl
theorem tw_714 : Cond.selects "StageMachineModel" ⟨"StageMachineModel", "each", "()V"⟩ ⟨"StageMachineModel", "each", "()V"⟩ ∈ gTs := tw_p (List.mem_of_getElem? (i := 39) rfl) rfl
theorem tw_715 : Cond.selects "StageMachineModel" ⟨"StageMachineModel", "page", "()I"⟩ ⟨"StageMachineModel", "page", "()I"⟩ ∈ gTs := tw_p (List.mem_of_getElem? (i := 40) rfl) rfl
theorem tw_716 : Cond.selects "StageMachineModel" ⟨"StageMachineModel", "fill", "()V"⟩ ⟨"StageMachineModel", "fill", "()V"⟩ ∈ gTs := tw_p (List.mem_of_getElem? (i := 41) rfl) rfl
theorem tw_717 : Cond.selects "StageMachineModel" ⟨"StageMachineModel", "copy", "()V"⟩ ⟨"StageMachineModel", "copy", "()V"⟩ ∈ gTs := tw_p (List.mem_of_getElem? (i := 42) rfl) rfl
theorem tw_718 : Cond.selects "StageMachineModel" ⟨"StageMachineModel", "draw", "()V"⟩ ⟨"StageMachineModel", "draw", "()V"⟩ ∈ gTs := tw_p (List.mem_of_getElem? (i := 43) rfl) rfl
theorem tw_719 : Cond.selects "StageMachineModel" ⟨"StageMachineModel", "lay", "(IIIII)V"⟩ ⟨"StageMachineModel", "lay", "(IIIII)V"⟩ ∈ gTs := tw_p (List.mem_of_getElem? (i := 44) rfl) rfl
theorem tw_720 : Cond.selects "StageMachineModel" ⟨"StageMachineModel", "begin", "(I)V"⟩ ⟨"StageMachineModel", "begin", "(I)V"⟩ ∈ gTs := tw_p (List.mem_of_getElem? (i := 45) rfl) rfl
theorem tw_721 : Cond.selects "StageMachineModel" ⟨"StageMachineModel", "read", "()I"⟩ ⟨"StageMachineModel", "read", "()I"⟩ ∈ gTs := tw_p (List.mem_of_getElem? (i := 46) rfl) rfl
theorem tw_722 : Cond.selects "StageMachineModel" ⟨"StageMachineModel", "polygon", "(III)V"⟩ ⟨"StageMachineModel", "polygon", "(III)V"⟩ ∈ gTs := tw_p (List.mem_of_getElem? (i := 47) rfl) rfl
theorem tw_723 : Cond.selects "StageMachineModel" ⟨"StageMachineModel", "scaled", "(I)I"⟩ ⟨"StageMachineModel", "scaled", "(I)I"⟩ ∈ gTs := tw_p (List.mem_of_getElem? (i := 48) rfl) rfl
theorem tw_724 : Cond.selects "StageMachineModel" ⟨"StageMachineModel", "line", "(III)V"⟩ ⟨"StageMachineModel", "line", "(III)V"⟩ ∈ gTs := tw_p (List.mem_of_getElem? (i := 49) rfl) rfl
theorem tw_725 : Cond.selects "StageMachineModel" ⟨"StageMachineModel", "group", "(IIII)V"⟩ ⟨"StageMachineModel", "group", "(IIII)V"⟩ ∈ gTs := tw_p (List.mem_of_getElem? (i := 50) rfl) rfl
theorem tw_726 : Cond.selects "StageMachineModel" ⟨"StageMachineModel", "swap", "(II)V"⟩ ⟨"StageMachineModel", "swap", "(II)V"⟩ ∈ gTs := tw_p (List.mem_of_getElem? (i := 51) rfl) rfl
theorem tw_727 : Cond.selects "StageMachineModel" ⟨"StageMachineModel", "reckon", "(I)V"⟩ ⟨"StageMachineModel", "reckon", "(I)V"⟩ ∈ gTs := tw_p (List.mem_of_getElem? (i := 52) rfl) rfl
