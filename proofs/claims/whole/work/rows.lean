section
-- ===== PART A: goes FIRST, ahead of the names: the tables' words, and 'selects' of the private methods out of them =====
/-- a private method of a class that the tables say can be made, by its rows of tables_1 -/
def lw_okq (q : MethodName × Nat) : Prop := (q.1.cls ≠ "java/lang/invoke/MethodHandle" ∧ q.1.cls ≠ "java/lang/invoke/VarHandle") ∧ Cond.instantiable q.1.cls q.2 ∈ tables_1 ∧ Cond.privateMethod q.1 ∈ tables_1 ∧ Cond.instanceMethod q.1 ∈ tables_1
theorem lw_p0 : lw_okq (⟨"StageMachine", "bytesOf", "(I)LStageMachine$Bytes;"⟩, 3) := ⟨⟨by decide +kernel, by decide +kernel⟩, List.mem_of_getElem? (i := 12) (by decide +kernel), List.mem_of_getElem? (i := 173) (by decide +kernel), List.mem_of_getElem? (i := 174) (by decide +kernel)⟩
theorem lw_p1 : lw_okq (⟨"StageMachine$Player", "doInstruction", "(LStageMachine$Channel;)V"⟩, 6) := ⟨⟨by decide +kernel, by decide +kernel⟩, List.mem_of_getElem? (i := 20) (by decide +kernel), List.mem_of_getElem? (i := 224) (by decide +kernel), List.mem_of_getElem? (i := 225) (by decide +kernel)⟩
theorem lw_p2 : lw_okq (⟨"StageMachine$Player", "nextByte", "()I"⟩, 6) := ⟨⟨by decide +kernel, by decide +kernel⟩, List.mem_of_getElem? (i := 20) (by decide +kernel), List.mem_of_getElem? (i := 228) (by decide +kernel), List.mem_of_getElem? (i := 229) (by decide +kernel)⟩
theorem lw_p3 : lw_okq (⟨"StageMachine$Player", "compute", "(I)V"⟩, 6) := ⟨⟨by decide +kernel, by decide +kernel⟩, List.mem_of_getElem? (i := 20) (by decide +kernel), List.mem_of_getElem? (i := 233) (by decide +kernel), List.mem_of_getElem? (i := 234) (by decide +kernel)⟩
theorem lw_p4 : lw_okq (⟨"StageMachine$Player", "nextVariable", "()I"⟩, 6) := ⟨⟨by decide +kernel, by decide +kernel⟩, List.mem_of_getElem? (i := 20) (by decide +kernel), List.mem_of_getElem? (i := 237) (by decide +kernel), List.mem_of_getElem? (i := 238) (by decide +kernel)⟩
theorem lw_p5 : lw_okq (⟨"StageMachine$Player", "nextNumber", "()I"⟩, 6) := ⟨⟨by decide +kernel, by decide +kernel⟩, List.mem_of_getElem? (i := 20) (by decide +kernel), List.mem_of_getElem? (i := 241) (by decide +kernel), List.mem_of_getElem? (i := 242) (by decide +kernel)⟩
theorem lw_p6 : lw_okq (⟨"StageMachine$Player", "nextPair", "()I"⟩, 6) := ⟨⟨by decide +kernel, by decide +kernel⟩, List.mem_of_getElem? (i := 20) (by decide +kernel), List.mem_of_getElem? (i := 245) (by decide +kernel), List.mem_of_getElem? (i := 246) (by decide +kernel)⟩
theorem lw_p7 : lw_okq (⟨"StageMachine$Player", "store", "(II)V"⟩, 6) := ⟨⟨by decide +kernel, by decide +kernel⟩, List.mem_of_getElem? (i := 20) (by decide +kernel), List.mem_of_getElem? (i := 253) (by decide +kernel), List.mem_of_getElem? (i := 254) (by decide +kernel)⟩
theorem lw_p8 : lw_okq (⟨"StageMachine$Player", "nextAddress", "()I"⟩, 6) := ⟨⟨by decide +kernel, by decide +kernel⟩, List.mem_of_getElem? (i := 20) (by decide +kernel), List.mem_of_getElem? (i := 257) (by decide +kernel), List.mem_of_getElem? (i := 258) (by decide +kernel)⟩
theorem lw_p9 : lw_okq (⟨"StageMachine$Player", "callAddress", "(LStageMachine$Channel;)V"⟩, 6) := ⟨⟨by decide +kernel, by decide +kernel⟩, List.mem_of_getElem? (i := 20) (by decide +kernel), List.mem_of_getElem? (i := 261) (by decide +kernel), List.mem_of_getElem? (i := 262) (by decide +kernel)⟩
theorem lw_p10 : lw_okq (⟨"StageMachine$Player", "fail", "(LStageMachine$Channel;I)V"⟩, 6) := ⟨⟨by decide +kernel, by decide +kernel⟩, List.mem_of_getElem? (i := 20) (by decide +kernel), List.mem_of_getElem? (i := 269) (by decide +kernel), List.mem_of_getElem? (i := 270) (by decide +kernel)⟩
theorem lw_p11 : lw_okq (⟨"StageMachine$Player", "end", "()V"⟩, 6) := ⟨⟨by decide +kernel, by decide +kernel⟩, List.mem_of_getElem? (i := 20) (by decide +kernel), List.mem_of_getElem? (i := 273) (by decide +kernel), List.mem_of_getElem? (i := 274) (by decide +kernel)⟩
theorem lw_p12 : lw_okq (⟨"StageMachine$Player", "comeBack", "(LStageMachine$Channel;)V"⟩, 6) := ⟨⟨by decide +kernel, by decide +kernel⟩, List.mem_of_getElem? (i := 20) (by decide +kernel), List.mem_of_getElem? (i := 277) (by decide +kernel), List.mem_of_getElem? (i := 278) (by decide +kernel)⟩
theorem lw_p13 : lw_okq (⟨"StageMachine$Player", "loop", "()V"⟩, 6) := ⟨⟨by decide +kernel, by decide +kernel⟩, List.mem_of_getElem? (i := 20) (by decide +kernel), List.mem_of_getElem? (i := 285) (by decide +kernel), List.mem_of_getElem? (i := 286) (by decide +kernel)⟩
theorem lw_p14 : lw_okq (⟨"StageMachine$Player", "jumpIf", "(LStageMachine$Channel;)V"⟩, 6) := ⟨⟨by decide +kernel, by decide +kernel⟩, List.mem_of_getElem? (i := 20) (by decide +kernel), List.mem_of_getElem? (i := 289) (by decide +kernel), List.mem_of_getElem? (i := 290) (by decide +kernel)⟩
theorem lw_p15 : lw_okq (⟨"StageMachine$Player", "nextCompared", "(I)I"⟩, 6) := ⟨⟨by decide +kernel, by decide +kernel⟩, List.mem_of_getElem? (i := 20) (by decide +kernel), List.mem_of_getElem? (i := 293) (by decide +kernel), List.mem_of_getElem? (i := 294) (by decide +kernel)⟩
def lw_privs_1 : List (MethodName × Nat) := [(⟨"StageMachine", "bytesOf", "(I)LStageMachine$Bytes;"⟩, 3), (⟨"StageMachine$Player", "doInstruction", "(LStageMachine$Channel;)V"⟩, 6), (⟨"StageMachine$Player", "nextByte", "()I"⟩, 6), (⟨"StageMachine$Player", "compute", "(I)V"⟩, 6), (⟨"StageMachine$Player", "nextVariable", "()I"⟩, 6), (⟨"StageMachine$Player", "nextNumber", "()I"⟩, 6), (⟨"StageMachine$Player", "nextPair", "()I"⟩, 6), (⟨"StageMachine$Player", "store", "(II)V"⟩, 6), (⟨"StageMachine$Player", "nextAddress", "()I"⟩, 6), (⟨"StageMachine$Player", "callAddress", "(LStageMachine$Channel;)V"⟩, 6), (⟨"StageMachine$Player", "fail", "(LStageMachine$Channel;I)V"⟩, 6), (⟨"StageMachine$Player", "end", "()V"⟩, 6), (⟨"StageMachine$Player", "comeBack", "(LStageMachine$Channel;)V"⟩, 6), (⟨"StageMachine$Player", "loop", "()V"⟩, 6), (⟨"StageMachine$Player", "jumpIf", "(LStageMachine$Channel;)V"⟩, 6), (⟨"StageMachine$Player", "nextCompared", "(I)I"⟩, 6)]
theorem lw_r1 : ∀ q ∈ lw_privs_1, lw_okq q := List.forall_mem_cons.mpr ⟨lw_p0, List.forall_mem_cons.mpr ⟨lw_p1, List.forall_mem_cons.mpr ⟨lw_p2, List.forall_mem_cons.mpr ⟨lw_p3, List.forall_mem_cons.mpr ⟨lw_p4, List.forall_mem_cons.mpr ⟨lw_p5, List.forall_mem_cons.mpr ⟨lw_p6, List.forall_mem_cons.mpr ⟨lw_p7, List.forall_mem_cons.mpr ⟨lw_p8, List.forall_mem_cons.mpr ⟨lw_p9, List.forall_mem_cons.mpr ⟨lw_p10, List.forall_mem_cons.mpr ⟨lw_p11, List.forall_mem_cons.mpr ⟨lw_p12, List.forall_mem_cons.mpr ⟨lw_p13, List.forall_mem_cons.mpr ⟨lw_p14, List.forall_mem_cons.mpr ⟨lw_p15, fun _ h => absurd h List.not_mem_nil⟩⟩⟩⟩⟩⟩⟩⟩⟩⟩⟩⟩⟩⟩⟩⟩
theorem lw_p16 : lw_okq (⟨"StageMachine$Player", "startOther", "()V"⟩, 6) := ⟨⟨by decide +kernel, by decide +kernel⟩, List.mem_of_getElem? (i := 20) (by decide +kernel), List.mem_of_getElem? (i := 300) (by decide +kernel), List.mem_of_getElem? (i := 301) (by decide +kernel)⟩
theorem lw_p17 : lw_okq (⟨"StageMachine$Player", "askOfEach", "(LStageMachine$Channel;)V"⟩, 6) := ⟨⟨by decide +kernel, by decide +kernel⟩, List.mem_of_getElem? (i := 20) (by decide +kernel), List.mem_of_getElem? (i := 304) (by decide +kernel), List.mem_of_getElem? (i := 305) (by decide +kernel)⟩
theorem lw_p18 : lw_okq (⟨"StageMachine$Player", "handlePages", "(I)V"⟩, 6) := ⟨⟨by decide +kernel, by decide +kernel⟩, List.mem_of_getElem? (i := 20) (by decide +kernel), List.mem_of_getElem? (i := 308) (by decide +kernel), List.mem_of_getElem? (i := 309) (by decide +kernel)⟩
theorem lw_p19 : lw_okq (⟨"StageMachine$Player", "draw", "()V"⟩, 6) := ⟨⟨by decide +kernel, by decide +kernel⟩, List.mem_of_getElem? (i := 20) (by decide +kernel), List.mem_of_getElem? (i := 333) (by decide +kernel), List.mem_of_getElem? (i := 334) (by decide +kernel)⟩
theorem lw_p20 : lw_okq (⟨"StageMachine$Painter", "drawShape", "(IIIIII)V"⟩, 8) := ⟨⟨by decide +kernel, by decide +kernel⟩, List.mem_of_getElem? (i := 39) (by decide +kernel), List.mem_of_getElem? (i := 337) (by decide +kernel), List.mem_of_getElem? (i := 338) (by decide +kernel)⟩
theorem lw_p21 : lw_okq (⟨"StageMachine$Painter", "placePairs", "(IIII)V"⟩, 8) := ⟨⟨by decide +kernel, by decide +kernel⟩, List.mem_of_getElem? (i := 39) (by decide +kernel), List.mem_of_getElem? (i := 342) (by decide +kernel), List.mem_of_getElem? (i := 343) (by decide +kernel)⟩
theorem lw_p22 : lw_okq (⟨"StageMachine$Painter", "drawPolygon", "(II)V"⟩, 8) := ⟨⟨by decide +kernel, by decide +kernel⟩, List.mem_of_getElem? (i := 39) (by decide +kernel), List.mem_of_getElem? (i := 352) (by decide +kernel), List.mem_of_getElem? (i := 353) (by decide +kernel)⟩
theorem lw_p23 : lw_okq (⟨"StageMachine$Painter", "drawRows", "(III)V"⟩, 8) := ⟨⟨by decide +kernel, by decide +kernel⟩, List.mem_of_getElem? (i := 39) (by decide +kernel), List.mem_of_getElem? (i := 356) (by decide +kernel), List.mem_of_getElem? (i := 357) (by decide +kernel)⟩
theorem lw_p24 : lw_okq (⟨"StageMachine$Painter", "drawGroup", "(IIIIII)V"⟩, 8) := ⟨⟨by decide +kernel, by decide +kernel⟩, List.mem_of_getElem? (i := 39) (by decide +kernel), List.mem_of_getElem? (i := 379) (by decide +kernel), List.mem_of_getElem? (i := 380) (by decide +kernel)⟩
theorem lw_p25 : lw_okq (⟨"StageMachineModel", "settle", "()V"⟩, 33) := ⟨⟨by decide +kernel, by decide +kernel⟩, List.mem_of_getElem? (i := 402) (by decide +kernel), List.mem_of_getElem? (i := 539) (by decide +kernel), List.mem_of_getElem? (i := 540) (by decide +kernel)⟩
theorem lw_p26 : lw_okq (⟨"StageMachineModel", "turn", "(II)V"⟩, 33) := ⟨⟨by decide +kernel, by decide +kernel⟩, List.mem_of_getElem? (i := 402) (by decide +kernel), List.mem_of_getElem? (i := 543) (by decide +kernel), List.mem_of_getElem? (i := 544) (by decide +kernel)⟩
theorem lw_p27 : lw_okq (⟨"StageMachineModel", "instruct", "()V"⟩, 33) := ⟨⟨by decide +kernel, by decide +kernel⟩, List.mem_of_getElem? (i := 402) (by decide +kernel), List.mem_of_getElem? (i := 547) (by decide +kernel), List.mem_of_getElem? (i := 548) (by decide +kernel)⟩
theorem lw_p28 : lw_okq (⟨"StageMachineModel", "next", "()I"⟩, 33) := ⟨⟨by decide +kernel, by decide +kernel⟩, List.mem_of_getElem? (i := 402) (by decide +kernel), List.mem_of_getElem? (i := 551) (by decide +kernel), List.mem_of_getElem? (i := 552) (by decide +kernel)⟩
theorem lw_p29 : lw_okq (⟨"StageMachineModel", "place", "()I"⟩, 33) := ⟨⟨by decide +kernel, by decide +kernel⟩, List.mem_of_getElem? (i := 402) (by decide +kernel), List.mem_of_getElem? (i := 555) (by decide +kernel), List.mem_of_getElem? (i := 556) (by decide +kernel)⟩
theorem lw_p30 : lw_okq (⟨"StageMachineModel", "two", "()I"⟩, 33) := ⟨⟨by decide +kernel, by decide +kernel⟩, List.mem_of_getElem? (i := 402) (by decide +kernel), List.mem_of_getElem? (i := 559) (by decide +kernel), List.mem_of_getElem? (i := 560) (by decide +kernel)⟩
theorem lw_p31 : lw_okq (⟨"StageMachineModel", "call", "()V"⟩, 33) := ⟨⟨by decide +kernel, by decide +kernel⟩, List.mem_of_getElem? (i := 402) (by decide +kernel), List.mem_of_getElem? (i := 563) (by decide +kernel), List.mem_of_getElem? (i := 564) (by decide +kernel)⟩
def lw_privs_2 : List (MethodName × Nat) := [(⟨"StageMachine$Player", "startOther", "()V"⟩, 6), (⟨"StageMachine$Player", "askOfEach", "(LStageMachine$Channel;)V"⟩, 6), (⟨"StageMachine$Player", "handlePages", "(I)V"⟩, 6), (⟨"StageMachine$Player", "draw", "()V"⟩, 6), (⟨"StageMachine$Painter", "drawShape", "(IIIIII)V"⟩, 8), (⟨"StageMachine$Painter", "placePairs", "(IIII)V"⟩, 8), (⟨"StageMachine$Painter", "drawPolygon", "(II)V"⟩, 8), (⟨"StageMachine$Painter", "drawRows", "(III)V"⟩, 8), (⟨"StageMachine$Painter", "drawGroup", "(IIIIII)V"⟩, 8), (⟨"StageMachineModel", "settle", "()V"⟩, 33), (⟨"StageMachineModel", "turn", "(II)V"⟩, 33), (⟨"StageMachineModel", "instruct", "()V"⟩, 33), (⟨"StageMachineModel", "next", "()I"⟩, 33), (⟨"StageMachineModel", "place", "()I"⟩, 33), (⟨"StageMachineModel", "two", "()I"⟩, 33), (⟨"StageMachineModel", "call", "()V"⟩, 33)]
theorem lw_r2 : ∀ q ∈ lw_privs_2, lw_okq q := List.forall_mem_cons.mpr ⟨lw_p16, List.forall_mem_cons.mpr ⟨lw_p17, List.forall_mem_cons.mpr ⟨lw_p18, List.forall_mem_cons.mpr ⟨lw_p19, List.forall_mem_cons.mpr ⟨lw_p20, List.forall_mem_cons.mpr ⟨lw_p21, List.forall_mem_cons.mpr ⟨lw_p22, List.forall_mem_cons.mpr ⟨lw_p23, List.forall_mem_cons.mpr ⟨lw_p24, List.forall_mem_cons.mpr ⟨lw_p25, List.forall_mem_cons.mpr ⟨lw_p26, List.forall_mem_cons.mpr ⟨lw_p27, List.forall_mem_cons.mpr ⟨lw_p28, List.forall_mem_cons.mpr ⟨lw_p29, List.forall_mem_cons.mpr ⟨lw_p30, List.forall_mem_cons.mpr ⟨lw_p31, fun _ h => absurd h List.not_mem_nil⟩⟩⟩⟩⟩⟩⟩⟩⟩⟩⟩⟩⟩⟩⟩⟩
theorem lw_p32 : lw_okq (⟨"StageMachineModel", "fails", "(I)V"⟩, 33) := ⟨⟨by decide +kernel, by decide +kernel⟩, List.mem_of_getElem? (i := 402) (by decide +kernel), List.mem_of_getElem? (i := 567) (by decide +kernel), List.mem_of_getElem? (i := 568) (by decide +kernel)⟩
theorem lw_p33 : lw_okq (⟨"StageMachineModel", "back", "()V"⟩, 33) := ⟨⟨by decide +kernel, by decide +kernel⟩, List.mem_of_getElem? (i := 402) (by decide +kernel), List.mem_of_getElem? (i := 571) (by decide +kernel), List.mem_of_getElem? (i := 572) (by decide +kernel)⟩
theorem lw_p34 : lw_okq (⟨"StageMachineModel", "loop", "()V"⟩, 33) := ⟨⟨by decide +kernel, by decide +kernel⟩, List.mem_of_getElem? (i := 402) (by decide +kernel), List.mem_of_getElem? (i := 575) (by decide +kernel), List.mem_of_getElem? (i := 576) (by decide +kernel)⟩
theorem lw_p35 : lw_okq (⟨"StageMachineModel", "name", "()I"⟩, 33) := ⟨⟨by decide +kernel, by decide +kernel⟩, List.mem_of_getElem? (i := 402) (by decide +kernel), List.mem_of_getElem? (i := 579) (by decide +kernel), List.mem_of_getElem? (i := 580) (by decide +kernel)⟩
theorem lw_p36 : lw_okq (⟨"StageMachineModel", "when", "()V"⟩, 33) := ⟨⟨by decide +kernel, by decide +kernel⟩, List.mem_of_getElem? (i := 402) (by decide +kernel), List.mem_of_getElem? (i := 583) (by decide +kernel), List.mem_of_getElem? (i := 584) (by decide +kernel)⟩
theorem lw_p37 : lw_okq (⟨"StageMachineModel", "signed", "()I"⟩, 33) := ⟨⟨by decide +kernel, by decide +kernel⟩, List.mem_of_getElem? (i := 402) (by decide +kernel), List.mem_of_getElem? (i := 587) (by decide +kernel), List.mem_of_getElem? (i := 588) (by decide +kernel)⟩
theorem lw_p38 : lw_okq (⟨"StageMachineModel", "start", "()V"⟩, 33) := ⟨⟨by decide +kernel, by decide +kernel⟩, List.mem_of_getElem? (i := 402) (by decide +kernel), List.mem_of_getElem? (i := 594) (by decide +kernel), List.mem_of_getElem? (i := 595) (by decide +kernel)⟩
theorem lw_p39 : lw_okq (⟨"StageMachineModel", "each", "()V"⟩, 33) := ⟨⟨by decide +kernel, by decide +kernel⟩, List.mem_of_getElem? (i := 402) (by decide +kernel), List.mem_of_getElem? (i := 598) (by decide +kernel), List.mem_of_getElem? (i := 599) (by decide +kernel)⟩
theorem lw_p40 : lw_okq (⟨"StageMachineModel", "page", "()I"⟩, 33) := ⟨⟨by decide +kernel, by decide +kernel⟩, List.mem_of_getElem? (i := 402) (by decide +kernel), List.mem_of_getElem? (i := 602) (by decide +kernel), List.mem_of_getElem? (i := 603) (by decide +kernel)⟩
theorem lw_p41 : lw_okq (⟨"StageMachineModel", "fill", "()V"⟩, 33) := ⟨⟨by decide +kernel, by decide +kernel⟩, List.mem_of_getElem? (i := 402) (by decide +kernel), List.mem_of_getElem? (i := 606) (by decide +kernel), List.mem_of_getElem? (i := 607) (by decide +kernel)⟩
theorem lw_p42 : lw_okq (⟨"StageMachineModel", "copy", "()V"⟩, 33) := ⟨⟨by decide +kernel, by decide +kernel⟩, List.mem_of_getElem? (i := 402) (by decide +kernel), List.mem_of_getElem? (i := 610) (by decide +kernel), List.mem_of_getElem? (i := 611) (by decide +kernel)⟩
theorem lw_p43 : lw_okq (⟨"StageMachineModel", "draw", "()V"⟩, 33) := ⟨⟨by decide +kernel, by decide +kernel⟩, List.mem_of_getElem? (i := 402) (by decide +kernel), List.mem_of_getElem? (i := 614) (by decide +kernel), List.mem_of_getElem? (i := 615) (by decide +kernel)⟩
theorem lw_p44 : lw_okq (⟨"StageMachineModel", "lay", "(IIIII)V"⟩, 33) := ⟨⟨by decide +kernel, by decide +kernel⟩, List.mem_of_getElem? (i := 402) (by decide +kernel), List.mem_of_getElem? (i := 618) (by decide +kernel), List.mem_of_getElem? (i := 619) (by decide +kernel)⟩
theorem lw_p45 : lw_okq (⟨"StageMachineModel", "begin", "(I)V"⟩, 33) := ⟨⟨by decide +kernel, by decide +kernel⟩, List.mem_of_getElem? (i := 402) (by decide +kernel), List.mem_of_getElem? (i := 622) (by decide +kernel), List.mem_of_getElem? (i := 623) (by decide +kernel)⟩
theorem lw_p46 : lw_okq (⟨"StageMachineModel", "read", "()I"⟩, 33) := ⟨⟨by decide +kernel, by decide +kernel⟩, List.mem_of_getElem? (i := 402) (by decide +kernel), List.mem_of_getElem? (i := 626) (by decide +kernel), List.mem_of_getElem? (i := 627) (by decide +kernel)⟩
theorem lw_p47 : lw_okq (⟨"StageMachineModel", "polygon", "(III)V"⟩, 33) := ⟨⟨by decide +kernel, by decide +kernel⟩, List.mem_of_getElem? (i := 402) (by decide +kernel), List.mem_of_getElem? (i := 630) (by decide +kernel), List.mem_of_getElem? (i := 631) (by decide +kernel)⟩
def lw_privs_3 : List (MethodName × Nat) := [(⟨"StageMachineModel", "fails", "(I)V"⟩, 33), (⟨"StageMachineModel", "back", "()V"⟩, 33), (⟨"StageMachineModel", "loop", "()V"⟩, 33), (⟨"StageMachineModel", "name", "()I"⟩, 33), (⟨"StageMachineModel", "when", "()V"⟩, 33), (⟨"StageMachineModel", "signed", "()I"⟩, 33), (⟨"StageMachineModel", "start", "()V"⟩, 33), (⟨"StageMachineModel", "each", "()V"⟩, 33), (⟨"StageMachineModel", "page", "()I"⟩, 33), (⟨"StageMachineModel", "fill", "()V"⟩, 33), (⟨"StageMachineModel", "copy", "()V"⟩, 33), (⟨"StageMachineModel", "draw", "()V"⟩, 33), (⟨"StageMachineModel", "lay", "(IIIII)V"⟩, 33), (⟨"StageMachineModel", "begin", "(I)V"⟩, 33), (⟨"StageMachineModel", "read", "()I"⟩, 33), (⟨"StageMachineModel", "polygon", "(III)V"⟩, 33)]
theorem lw_r3 : ∀ q ∈ lw_privs_3, lw_okq q := List.forall_mem_cons.mpr ⟨lw_p32, List.forall_mem_cons.mpr ⟨lw_p33, List.forall_mem_cons.mpr ⟨lw_p34, List.forall_mem_cons.mpr ⟨lw_p35, List.forall_mem_cons.mpr ⟨lw_p36, List.forall_mem_cons.mpr ⟨lw_p37, List.forall_mem_cons.mpr ⟨lw_p38, List.forall_mem_cons.mpr ⟨lw_p39, List.forall_mem_cons.mpr ⟨lw_p40, List.forall_mem_cons.mpr ⟨lw_p41, List.forall_mem_cons.mpr ⟨lw_p42, List.forall_mem_cons.mpr ⟨lw_p43, List.forall_mem_cons.mpr ⟨lw_p44, List.forall_mem_cons.mpr ⟨lw_p45, List.forall_mem_cons.mpr ⟨lw_p46, List.forall_mem_cons.mpr ⟨lw_p47, fun _ h => absurd h List.not_mem_nil⟩⟩⟩⟩⟩⟩⟩⟩⟩⟩⟩⟩⟩⟩⟩⟩
theorem lw_p48 : lw_okq (⟨"StageMachineModel", "scaled", "(I)I"⟩, 33) := ⟨⟨by decide +kernel, by decide +kernel⟩, List.mem_of_getElem? (i := 402) (by decide +kernel), List.mem_of_getElem? (i := 634) (by decide +kernel), List.mem_of_getElem? (i := 635) (by decide +kernel)⟩
theorem lw_p49 : lw_okq (⟨"StageMachineModel", "line", "(III)V"⟩, 33) := ⟨⟨by decide +kernel, by decide +kernel⟩, List.mem_of_getElem? (i := 402) (by decide +kernel), List.mem_of_getElem? (i := 643) (by decide +kernel), List.mem_of_getElem? (i := 644) (by decide +kernel)⟩
theorem lw_p50 : lw_okq (⟨"StageMachineModel", "group", "(IIII)V"⟩, 33) := ⟨⟨by decide +kernel, by decide +kernel⟩, List.mem_of_getElem? (i := 402) (by decide +kernel), List.mem_of_getElem? (i := 652) (by decide +kernel), List.mem_of_getElem? (i := 653) (by decide +kernel)⟩
theorem lw_p51 : lw_okq (⟨"StageMachineModel", "swap", "(II)V"⟩, 33) := ⟨⟨by decide +kernel, by decide +kernel⟩, List.mem_of_getElem? (i := 402) (by decide +kernel), List.mem_of_getElem? (i := 656) (by decide +kernel), List.mem_of_getElem? (i := 657) (by decide +kernel)⟩
theorem lw_p52 : lw_okq (⟨"StageMachineModel", "reckon", "(I)V"⟩, 33) := ⟨⟨by decide +kernel, by decide +kernel⟩, List.mem_of_getElem? (i := 402) (by decide +kernel), List.mem_of_getElem? (i := 660) (by decide +kernel), List.mem_of_getElem? (i := 661) (by decide +kernel)⟩
def lw_privs_4 : List (MethodName × Nat) := [(⟨"StageMachineModel", "scaled", "(I)I"⟩, 33), (⟨"StageMachineModel", "line", "(III)V"⟩, 33), (⟨"StageMachineModel", "group", "(IIII)V"⟩, 33), (⟨"StageMachineModel", "swap", "(II)V"⟩, 33), (⟨"StageMachineModel", "reckon", "(I)V"⟩, 33)]
theorem lw_r4 : ∀ q ∈ lw_privs_4, lw_okq q := List.forall_mem_cons.mpr ⟨lw_p48, List.forall_mem_cons.mpr ⟨lw_p49, List.forall_mem_cons.mpr ⟨lw_p50, List.forall_mem_cons.mpr ⟨lw_p51, List.forall_mem_cons.mpr ⟨lw_p52, fun _ h => absurd h List.not_mem_nil⟩⟩⟩⟩⟩
def lw_privs : List (MethodName × Nat) := lw_privs_1 ++ (lw_privs_2 ++ (lw_privs_3 ++ (lw_privs_4)))
def lw_tbl : List Cond := k2_sels lw_privs ++ tables_1
theorem lw_privs_ok : ∀ q ∈ lw_privs, lw_okq q := by
  show ∀ q ∈ lw_privs_1 ++ (lw_privs_2 ++ (lw_privs_3 ++ (lw_privs_4))), lw_okq q
  exact List.forall_mem_append.mpr ⟨lw_r1, List.forall_mem_append.mpr ⟨lw_r2, List.forall_mem_append.mpr ⟨lw_r3, lw_r4⟩⟩⟩

def gw_isN : Cond → Bool
  | .fieldLinkNest .. => true
  | .methodLinkNest .. => true
  | _ => false
theorem gw_isN_tab {w : Cond} (h : gw_isN w = true) : w.onTables = true := by
  cases w <;> first | rfl | (simp [gw_isN] at h; done)
theorem gw_isN_warm {w : Cond} {s U : State} (h : gw_isN w = true) (hW : s.WarmedH U.vm) (hZ : va_Nw w s) : va_Nw w U := by
  cases w <;> first | (simp [gw_isN] at h; done) | exact va_Nw.warmF hW hZ | exact va_Nw.warmM hW hZ
def gTs : List Cond := lw_tbl.filter (fun w => goodWord w || gw_isN w)
theorem gTs_ok : ∀ w ∈ gTs, goodWord w = true ∨ gw_isN w = true := by
  intro w hw
  have h := (List.mem_filter.mp hw).2
  simpa using h
theorem tw_a {w : Cond} (h : w ∈ tables_1_1) (hg : (goodWord w || gw_isN w) = true) : w ∈ gTs := List.mem_filter.mpr ⟨List.mem_append_right _ (List.mem_append_left _ h), hg⟩
theorem tw_b {w : Cond} (h : w ∈ tables_1_2) (hg : (goodWord w || gw_isN w) = true) : w ∈ gTs := List.mem_filter.mpr ⟨List.mem_append_right _ (List.mem_append_right _ (List.mem_append_left _ h)), hg⟩
theorem tw_c {w : Cond} (h : w ∈ tables_1_3) (hg : (goodWord w || gw_isN w) = true) : w ∈ gTs := List.mem_filter.mpr ⟨List.mem_append_right _ (List.mem_append_right _ (List.mem_append_right _ h)), hg⟩
theorem tw_p {w : Cond} (h : w ∈ k2_sels lw_privs) (hg : (goodWord w || gw_isN w) = true) : w ∈ gTs := List.mem_filter.mpr ⟨List.mem_append_left _ h, hg⟩
theorem tw_0 : Cond.initialized "StageMachineLaw" ∈ gTs := tw_a (List.mem_of_getElem? (i := 0) rfl) rfl
theorem tw_1 : Cond.initialized "StageMachine" ∈ gTs := tw_a (List.mem_of_getElem? (i := 1) rfl) rfl
theorem tw_2 : Cond.initialized "StageMachine$Player" ∈ gTs := tw_a (List.mem_of_getElem? (i := 2) rfl) rfl
theorem tw_3 : Cond.initialized "StageMachine$Bytes" ∈ gTs := tw_a (List.mem_of_getElem? (i := 3) rfl) rfl
theorem tw_4 : Cond.initialized "StageMachine$Painter" ∈ gTs := tw_a (List.mem_of_getElem? (i := 4) rfl) rfl
theorem tw_5 : Cond.initialized "StageMachine$Pages" ∈ gTs := tw_a (List.mem_of_getElem? (i := 5) rfl) rfl
theorem tw_6 : Cond.initialized "StageMachine$Channel" ∈ gTs := tw_a (List.mem_of_getElem? (i := 6) rfl) rfl
theorem tw_7 : Cond.initialized "StageMachineModel" ∈ gTs := tw_a (List.mem_of_getElem? (i := 7) rfl) rfl
theorem tw_8 : Cond.initialized "java/util/Arrays" ∈ gTs := tw_a (List.mem_of_getElem? (i := 8) rfl) rfl
theorem tw_9 : Cond.initialized "java/lang/System" ∈ gTs := tw_a (List.mem_of_getElem? (i := 9) rfl) rfl
theorem tw_10 : Cond.initialized "java/lang/Math" ∈ gTs := tw_a (List.mem_of_getElem? (i := 10) rfl) rfl
theorem tw_11 : Cond.classLink "StageMachineLaw" 7 "StageMachine" ∈ gTs := tw_a (List.mem_of_getElem? (i := 11) rfl) rfl
theorem tw_12 : Cond.instantiable "StageMachine" 3 ∈ gTs := tw_a (List.mem_of_getElem? (i := 12) rfl) rfl
theorem tw_13 : Cond.methodLink "StageMachineLaw" 9 ⟨"StageMachine", "<init>", "()V"⟩ ∈ gTs := tw_a (List.mem_of_getElem? (i := 13) rfl) rfl
theorem tw_14 : Cond.instanceMethod ⟨"StageMachine", "<init>", "()V"⟩ ∈ gTs := tw_a (List.mem_of_getElem? (i := 14) rfl) rfl
theorem tw_15 : Cond.code ⟨"StageMachine", "<init>", "()V"⟩ prog_1_method_1_code 1 none ∈ gTs := tw_a (List.mem_of_getElem? (i := 15) rfl) rfl
theorem tw_16 : Cond.methodLink "StageMachine" 3 ⟨"java/lang/Object", "<init>", "()V"⟩ ∈ gTs := tw_a (List.mem_of_getElem? (i := 16) rfl) rfl
theorem tw_17 : Cond.instanceMethod ⟨"java/lang/Object", "<init>", "()V"⟩ ∈ gTs := tw_a (List.mem_of_getElem? (i := 17) rfl) rfl
theorem tw_18 : Cond.code ⟨"java/lang/Object", "<init>", "()V"⟩ object_method_1_code 1 none ∈ gTs := tw_a (List.mem_of_getElem? (i := 18) rfl) rfl
theorem tw_19 : Cond.classLink "StageMachine" 16 "StageMachine$Player" ∈ gTs := tw_a (List.mem_of_getElem? (i := 19) rfl) rfl
theorem tw_20 : Cond.instantiable "StageMachine$Player" 6 ∈ gTs := tw_a (List.mem_of_getElem? (i := 20) rfl) rfl
theorem tw_21 : Cond.methodLink "StageMachine" 18 ⟨"StageMachine$Player", "<init>", "()V"⟩ ∈ gTs := tw_a (List.mem_of_getElem? (i := 21) rfl) rfl
theorem tw_22 : Cond.instanceMethod ⟨"StageMachine$Player", "<init>", "()V"⟩ ∈ gTs := tw_a (List.mem_of_getElem? (i := 22) rfl) rfl
theorem tw_23 : Cond.code ⟨"StageMachine$Player", "<init>", "()V"⟩ prog_6_method_1_code 2 none ∈ gTs := tw_a (List.mem_of_getElem? (i := 23) rfl) rfl
theorem tw_24 : Cond.methodLink "StageMachine$Player" 3 ⟨"java/lang/Object", "<init>", "()V"⟩ ∈ gTs := tw_a (List.mem_of_getElem? (i := 24) rfl) rfl
theorem tw_25 : Cond.classLink "StageMachine$Player" 9 "StageMachine$Bytes" ∈ gTs := tw_a (List.mem_of_getElem? (i := 25) rfl) rfl
theorem tw_26 : Cond.instantiable "StageMachine$Bytes" 1 ∈ gTs := tw_a (List.mem_of_getElem? (i := 26) rfl) rfl
theorem tw_27 : Cond.methodLinkNest "StageMachine$Player" 11 ⟨"StageMachine$Bytes", "<init>", "()V"⟩ "StageMachine" ∈ gTs := tw_a (List.mem_of_getElem? (i := 27) rfl) rfl
theorem tw_28 : Cond.instanceMethod ⟨"StageMachine$Bytes", "<init>", "()V"⟩ ∈ gTs := tw_a (List.mem_of_getElem? (i := 28) rfl) rfl
theorem tw_29 : Cond.code ⟨"StageMachine$Bytes", "<init>", "()V"⟩ prog_2_method_1_code 1 none ∈ gTs := tw_a (List.mem_of_getElem? (i := 29) rfl) rfl
theorem tw_30 : Cond.methodLink "StageMachine$Bytes" 3 ⟨"java/lang/Object", "<init>", "()V"⟩ ∈ gTs := tw_a (List.mem_of_getElem? (i := 30) rfl) rfl
theorem tw_31 : Cond.fieldLink "StageMachine$Bytes" 9 "StageMachine$Bytes" "bytes" "[I" ∈ gTs := tw_a (List.mem_of_getElem? (i := 31) rfl) rfl
theorem tw_32 : Cond.laysFinal "StageMachine$Bytes" "StageMachine$Bytes" "bytes" "[I" ∈ gTs := tw_a (List.mem_of_getElem? (i := 32) rfl) rfl
theorem tw_34 : Cond.superclass "StageMachine$Bytes" "java/lang/Object" ∈ gTs := tw_a (List.mem_of_getElem? (i := 34) rfl) rfl
theorem tw_35 : Cond.arrayClass .int ∈ gTs := tw_a (List.mem_of_getElem? (i := 35) rfl) rfl
theorem tw_36 : Cond.classLink "StageMachine$Player" 22 "StageMachine$Channel" ∈ gTs := tw_a (List.mem_of_getElem? (i := 36) rfl) rfl
theorem tw_38 : Cond.classLink "StageMachine$Player" 28 "StageMachine$Painter" ∈ gTs := tw_a (List.mem_of_getElem? (i := 38) rfl) rfl
theorem tw_39 : Cond.instantiable "StageMachine$Painter" 8 ∈ gTs := tw_a (List.mem_of_getElem? (i := 39) rfl) rfl
theorem tw_40 : Cond.methodLinkNest "StageMachine$Player" 30 ⟨"StageMachine$Painter", "<init>", "()V"⟩ "StageMachine" ∈ gTs := tw_a (List.mem_of_getElem? (i := 40) rfl) rfl
theorem tw_41 : Cond.instanceMethod ⟨"StageMachine$Painter", "<init>", "()V"⟩ ∈ gTs := tw_a (List.mem_of_getElem? (i := 41) rfl) rfl
theorem tw_42 : Cond.code ⟨"StageMachine$Painter", "<init>", "()V"⟩ prog_5_method_1_code 1 none ∈ gTs := tw_a (List.mem_of_getElem? (i := 42) rfl) rfl
theorem tw_43 : Cond.methodLink "StageMachine$Painter" 3 ⟨"java/lang/Object", "<init>", "()V"⟩ ∈ gTs := tw_a (List.mem_of_getElem? (i := 43) rfl) rfl
theorem tw_44 : Cond.classLink "StageMachine$Painter" 9 "StageMachine$Bytes" ∈ gTs := tw_a (List.mem_of_getElem? (i := 44) rfl) rfl
theorem tw_45 : Cond.methodLinkNest "StageMachine$Painter" 11 ⟨"StageMachine$Bytes", "<init>", "()V"⟩ "StageMachine" ∈ gTs := tw_a (List.mem_of_getElem? (i := 45) rfl) rfl
theorem tw_46 : Cond.classLink "StageMachine$Painter" 18 "StageMachine$Pages" ∈ gTs := tw_a (List.mem_of_getElem? (i := 46) rfl) rfl
theorem tw_47 : Cond.instantiable "StageMachine$Pages" 3 ∈ gTs := tw_a (List.mem_of_getElem? (i := 47) rfl) rfl
theorem tw_48 : Cond.methodLinkNest "StageMachine$Painter" 20 ⟨"StageMachine$Pages", "<init>", "()V"⟩ "StageMachine" ∈ gTs := tw_a (List.mem_of_getElem? (i := 48) rfl) rfl
theorem tw_49 : Cond.instanceMethod ⟨"StageMachine$Pages", "<init>", "()V"⟩ ∈ gTs := tw_a (List.mem_of_getElem? (i := 49) rfl) rfl
theorem tw_50 : Cond.code ⟨"StageMachine$Pages", "<init>", "()V"⟩ prog_4_method_1_code 1 none ∈ gTs := tw_a (List.mem_of_getElem? (i := 50) rfl) rfl
theorem tw_51 : Cond.methodLink "StageMachine$Pages" 3 ⟨"java/lang/Object", "<init>", "()V"⟩ ∈ gTs := tw_a (List.mem_of_getElem? (i := 51) rfl) rfl
theorem tw_52 : Cond.fieldLink "StageMachine$Pages" 11 "StageMachine$Pages" "pixels" "[B" ∈ gTs := tw_a (List.mem_of_getElem? (i := 52) rfl) rfl
theorem tw_53 : Cond.fieldLinkNest "StageMachine$Painter" 99 "StageMachine$Pages" "pixels" "[B" "StageMachine" ∈ gTs := tw_a (List.mem_of_getElem? (i := 53) rfl) rfl
theorem tw_54 : Cond.fieldLink "StageMachine$Pages" 15 "StageMachine$Pages" "working" "I" ∈ gTs := tw_a (List.mem_of_getElem? (i := 54) rfl) rfl
theorem tw_55 : Cond.fieldLinkNest "StageMachine" 97 "StageMachine$Pages" "working" "I" "StageMachine" ∈ gTs := tw_a (List.mem_of_getElem? (i := 55) rfl) rfl
theorem tw_56 : Cond.fieldLinkNest "StageMachine$Player" 133 "StageMachine$Pages" "working" "I" "StageMachine" ∈ gTs := tw_a (List.mem_of_getElem? (i := 56) rfl) rfl
theorem tw_57 : Cond.fieldLink "StageMachine$Pages" 19 "StageMachine$Pages" "shown" "I" ∈ gTs := tw_a (List.mem_of_getElem? (i := 57) rfl) rfl
theorem tw_58 : Cond.fieldLinkNest "StageMachine" 100 "StageMachine$Pages" "shown" "I" "StageMachine" ∈ gTs := tw_a (List.mem_of_getElem? (i := 58) rfl) rfl
theorem tw_59 : Cond.fieldLinkNest "StageMachine$Player" 142 "StageMachine$Pages" "shown" "I" "StageMachine" ∈ gTs := tw_a (List.mem_of_getElem? (i := 59) rfl) rfl
theorem tw_60 : Cond.laysFinal "StageMachine$Pages" "StageMachine$Pages" "pixels" "[B" ∈ gTs := tw_a (List.mem_of_getElem? (i := 60) rfl) rfl
theorem tw_62 : Cond.lays "StageMachine$Pages" "StageMachine$Pages" "working" "I" ∈ gTs := tw_a (List.mem_of_getElem? (i := 62) rfl) rfl
theorem tw_64 : Cond.lays "StageMachine$Pages" "StageMachine$Pages" "shown" "I" ∈ gTs := tw_a (List.mem_of_getElem? (i := 64) rfl) rfl
theorem tw_66 : Cond.superclass "StageMachine$Pages" "java/lang/Object" ∈ gTs := tw_a (List.mem_of_getElem? (i := 66) rfl) rfl
theorem tw_67 : Cond.arrayClass .byte ∈ gTs := tw_a (List.mem_of_getElem? (i := 67) rfl) rfl
theorem tw_68 : Cond.fieldLink "StageMachine$Painter" 12 "StageMachine$Painter" "shapes" "LStageMachine$Bytes;" ∈ gTs := tw_a (List.mem_of_getElem? (i := 68) rfl) rfl
theorem tw_69 : Cond.fieldLinkNest "StageMachine" 113 "StageMachine$Painter" "shapes" "LStageMachine$Bytes;" "StageMachine" ∈ gTs := tw_a (List.mem_of_getElem? (i := 69) rfl) rfl
theorem tw_70 : Cond.fieldLink "StageMachine$Painter" 21 "StageMachine$Painter" "pages" "LStageMachine$Pages;" ∈ gTs := tw_a (List.mem_of_getElem? (i := 70) rfl) rfl
theorem tw_71 : Cond.fieldLinkNest "StageMachine" 87 "StageMachine$Painter" "pages" "LStageMachine$Pages;" "StageMachine" ∈ gTs := tw_a (List.mem_of_getElem? (i := 71) rfl) rfl
theorem tw_72 : Cond.fieldLinkNest "StageMachine$Player" 124 "StageMachine$Painter" "pages" "LStageMachine$Pages;" "StageMachine" ∈ gTs := tw_a (List.mem_of_getElem? (i := 72) rfl) rfl
theorem tw_73 : Cond.fieldLink "StageMachine$Painter" 25 "StageMachine$Painter" "rightXs" "[I" ∈ gTs := tw_a (List.mem_of_getElem? (i := 73) rfl) rfl
theorem tw_74 : Cond.fieldLink "StageMachine$Painter" 29 "StageMachine$Painter" "leftXs" "[I" ∈ gTs := tw_a (List.mem_of_getElem? (i := 74) rfl) rfl
theorem tw_75 : Cond.fieldLink "StageMachine$Painter" 32 "StageMachine$Painter" "pairYs" "[I" ∈ gTs := tw_a (List.mem_of_getElem? (i := 75) rfl) rfl
theorem tw_76 : Cond.fieldLink "StageMachine$Painter" 35 "StageMachine$Painter" "begunInDraw" "I" ∈ gTs := tw_a (List.mem_of_getElem? (i := 76) rfl) rfl
theorem tw_77 : Cond.fieldLinkNest "StageMachine$Player" 145 "StageMachine$Painter" "begunInDraw" "I" "StageMachine" ∈ gTs := tw_a (List.mem_of_getElem? (i := 77) rfl) rfl
theorem tw_78 : Cond.fieldLink "StageMachine$Painter" 39 "StageMachine$Painter" "begunInFrame" "I" ∈ gTs := tw_a (List.mem_of_getElem? (i := 78) rfl) rfl
theorem tw_79 : Cond.fieldLinkNest "StageMachine" 106 "StageMachine$Painter" "begunInFrame" "I" "StageMachine" ∈ gTs := tw_a (List.mem_of_getElem? (i := 79) rfl) rfl
theorem tw_80 : Cond.fieldLink "StageMachine$Painter" 42 "StageMachine$Painter" "rowsInFrame" "I" ∈ gTs := tw_a (List.mem_of_getElem? (i := 80) rfl) rfl
theorem tw_81 : Cond.fieldLinkNest "StageMachine" 103 "StageMachine$Painter" "rowsInFrame" "I" "StageMachine" ∈ gTs := tw_a (List.mem_of_getElem? (i := 81) rfl) rfl
theorem tw_82 : Cond.laysFinal "StageMachine$Painter" "StageMachine$Painter" "shapes" "LStageMachine$Bytes;" ∈ gTs := tw_a (List.mem_of_getElem? (i := 82) rfl) rfl
theorem tw_84 : Cond.laysFinal "StageMachine$Painter" "StageMachine$Painter" "pages" "LStageMachine$Pages;" ∈ gTs := tw_a (List.mem_of_getElem? (i := 84) rfl) rfl
theorem tw_86 : Cond.laysFinal "StageMachine$Painter" "StageMachine$Painter" "rightXs" "[I" ∈ gTs := tw_a (List.mem_of_getElem? (i := 86) rfl) rfl
theorem tw_88 : Cond.laysFinal "StageMachine$Painter" "StageMachine$Painter" "leftXs" "[I" ∈ gTs := tw_a (List.mem_of_getElem? (i := 88) rfl) rfl
theorem tw_90 : Cond.laysFinal "StageMachine$Painter" "StageMachine$Painter" "pairYs" "[I" ∈ gTs := tw_a (List.mem_of_getElem? (i := 90) rfl) rfl
theorem tw_92 : Cond.lays "StageMachine$Painter" "StageMachine$Painter" "begunInDraw" "I" ∈ gTs := tw_a (List.mem_of_getElem? (i := 92) rfl) rfl
theorem tw_94 : Cond.lays "StageMachine$Painter" "StageMachine$Painter" "begunInFrame" "I" ∈ gTs := tw_a (List.mem_of_getElem? (i := 94) rfl) rfl
theorem tw_96 : Cond.lays "StageMachine$Painter" "StageMachine$Painter" "rowsInFrame" "I" ∈ gTs := tw_a (List.mem_of_getElem? (i := 96) rfl) rfl
theorem tw_98 : Cond.superclass "StageMachine$Painter" "java/lang/Object" ∈ gTs := tw_a (List.mem_of_getElem? (i := 98) rfl) rfl
theorem tw_99 : Cond.instantiable "StageMachine$Channel" 7 ∈ gTs := tw_a (List.mem_of_getElem? (i := 99) rfl) rfl
theorem tw_100 : Cond.methodLinkNest "StageMachine$Player" 43 ⟨"StageMachine$Channel", "<init>", "()V"⟩ "StageMachine" ∈ gTs := tw_a (List.mem_of_getElem? (i := 100) rfl) rfl
theorem tw_101 : Cond.instanceMethod ⟨"StageMachine$Channel", "<init>", "()V"⟩ ∈ gTs := tw_a (List.mem_of_getElem? (i := 101) rfl) rfl
theorem tw_102 : Cond.code ⟨"StageMachine$Channel", "<init>", "()V"⟩ prog_3_method_1_code 1 none ∈ gTs := tw_a (List.mem_of_getElem? (i := 102) rfl) rfl
theorem tw_103 : Cond.methodLink "StageMachine$Channel" 3 ⟨"java/lang/Object", "<init>", "()V"⟩ ∈ gTs := tw_a (List.mem_of_getElem? (i := 103) rfl) rfl
theorem tw_104 : Cond.fieldLink "StageMachine$Channel" 9 "StageMachine$Channel" "pile" "[I" ∈ gTs := tw_a (List.mem_of_getElem? (i := 104) rfl) rfl
theorem tw_105 : Cond.fieldLink "StageMachine$Channel" 15 "StageMachine$Channel" "returns" "I" ∈ gTs := tw_a (List.mem_of_getElem? (i := 105) rfl) rfl
theorem tw_106 : Cond.fieldLinkNest "StageMachine" 81 "StageMachine$Channel" "returns" "I" "StageMachine" ∈ gTs := tw_a (List.mem_of_getElem? (i := 106) rfl) rfl
theorem tw_107 : Cond.fieldLink "StageMachine$Channel" 19 "StageMachine$Channel" "address" "I" ∈ gTs := tw_a (List.mem_of_getElem? (i := 107) rfl) rfl
theorem tw_108 : Cond.fieldLinkNest "StageMachine$Player" 44 "StageMachine$Channel" "address" "I" "StageMachine" ∈ gTs := tw_a (List.mem_of_getElem? (i := 108) rfl) rfl
theorem tw_109 : Cond.fieldLinkNest "StageMachine" 74 "StageMachine$Channel" "address" "I" "StageMachine" ∈ gTs := tw_a (List.mem_of_getElem? (i := 109) rfl) rfl
theorem tw_110 : Cond.fieldLink "StageMachine$Channel" 22 "StageMachine$Channel" "paused" "Z" ∈ gTs := tw_a (List.mem_of_getElem? (i := 110) rfl) rfl
theorem tw_111 : Cond.fieldLinkNest "StageMachine" 77 "StageMachine$Channel" "paused" "Z" "StageMachine" ∈ gTs := tw_a (List.mem_of_getElem? (i := 111) rfl) rfl
theorem tw_112 : Cond.fieldLink "StageMachine$Channel" 26 "StageMachine$Channel" "latestFault" "I" ∈ gTs := tw_a (List.mem_of_getElem? (i := 112) rfl) rfl
theorem tw_113 : Cond.fieldLinkNest "StageMachine" 84 "StageMachine$Channel" "latestFault" "I" "StageMachine" ∈ gTs := tw_a (List.mem_of_getElem? (i := 113) rfl) rfl
theorem tw_114 : Cond.fieldLinkNest "StageMachine$Player" 152 "StageMachine$Channel" "latestFault" "I" "StageMachine" ∈ gTs := tw_a (List.mem_of_getElem? (i := 114) rfl) rfl
theorem tw_115 : Cond.fieldLink "StageMachine$Channel" 29 "StageMachine$Channel" "askedAddress" "I" ∈ gTs := tw_a (List.mem_of_getElem? (i := 115) rfl) rfl
theorem tw_116 : Cond.fieldLinkNest "StageMachine" 49 "StageMachine$Channel" "askedAddress" "I" "StageMachine" ∈ gTs := tw_a (List.mem_of_getElem? (i := 116) rfl) rfl
theorem tw_117 : Cond.fieldLinkNest "StageMachine$Player" 118 "StageMachine$Channel" "askedAddress" "I" "StageMachine" ∈ gTs := tw_a (List.mem_of_getElem? (i := 117) rfl) rfl
theorem tw_118 : Cond.fieldLink "StageMachine$Channel" 32 "StageMachine$Channel" "askedPause" "I" ∈ gTs := tw_a (List.mem_of_getElem? (i := 118) rfl) rfl
theorem tw_119 : Cond.fieldLinkNest "StageMachine$Player" 121 "StageMachine$Channel" "askedPause" "I" "StageMachine" ∈ gTs := tw_a (List.mem_of_getElem? (i := 119) rfl) rfl
theorem tw_120 : Cond.laysFinal "StageMachine$Channel" "StageMachine$Channel" "pile" "[I" ∈ gTs := tw_a (List.mem_of_getElem? (i := 120) rfl) rfl
theorem tw_122 : Cond.lays "StageMachine$Channel" "StageMachine$Channel" "returns" "I" ∈ gTs := tw_a (List.mem_of_getElem? (i := 122) rfl) rfl
theorem tw_124 : Cond.lays "StageMachine$Channel" "StageMachine$Channel" "address" "I" ∈ gTs := tw_a (List.mem_of_getElem? (i := 124) rfl) rfl
theorem tw_126 : Cond.lays "StageMachine$Channel" "StageMachine$Channel" "paused" "Z" ∈ gTs := tw_a (List.mem_of_getElem? (i := 126) rfl) rfl
theorem tw_128 : Cond.lays "StageMachine$Channel" "StageMachine$Channel" "latestFault" "I" ∈ gTs := tw_a (List.mem_of_getElem? (i := 128) rfl) rfl
theorem tw_130 : Cond.lays "StageMachine$Channel" "StageMachine$Channel" "askedAddress" "I" ∈ gTs := tw_a (List.mem_of_getElem? (i := 130) rfl) rfl
theorem tw_132 : Cond.lays "StageMachine$Channel" "StageMachine$Channel" "askedPause" "I" ∈ gTs := tw_a (List.mem_of_getElem? (i := 132) rfl) rfl
theorem tw_134 : Cond.superclass "StageMachine$Channel" "java/lang/Object" ∈ gTs := tw_a (List.mem_of_getElem? (i := 134) rfl) rfl
theorem tw_135 : Cond.fieldLink "StageMachine$Player" 12 "StageMachine$Player" "program" "LStageMachine$Bytes;" ∈ gTs := tw_a (List.mem_of_getElem? (i := 135) rfl) rfl
theorem tw_136 : Cond.fieldLinkNest "StageMachine" 109 "StageMachine$Player" "program" "LStageMachine$Bytes;" "StageMachine" ∈ gTs := tw_a (List.mem_of_getElem? (i := 136) rfl) rfl
theorem tw_137 : Cond.fieldLink "StageMachine$Player" 18 "StageMachine$Player" "variables" "[I" ∈ gTs := tw_a (List.mem_of_getElem? (i := 137) rfl) rfl
theorem tw_138 : Cond.fieldLinkNest "StageMachine" 41 "StageMachine$Player" "variables" "[I" "StageMachine" ∈ gTs := tw_a (List.mem_of_getElem? (i := 138) rfl) rfl
theorem tw_139 : Cond.fieldLink "StageMachine$Player" 24 "StageMachine$Player" "channels" "[LStageMachine$Channel;" ∈ gTs := tw_a (List.mem_of_getElem? (i := 139) rfl) rfl
theorem tw_140 : Cond.fieldLinkNest "StageMachine" 45 "StageMachine$Player" "channels" "[LStageMachine$Channel;" "StageMachine" ∈ gTs := tw_a (List.mem_of_getElem? (i := 140) rfl) rfl
theorem tw_141 : Cond.fieldLink "StageMachine$Player" 31 "StageMachine$Player" "painter" "LStageMachine$Painter;" ∈ gTs := tw_a (List.mem_of_getElem? (i := 141) rfl) rfl
theorem tw_142 : Cond.fieldLinkNest "StageMachine" 54 "StageMachine$Player" "painter" "LStageMachine$Painter;" "StageMachine" ∈ gTs := tw_a (List.mem_of_getElem? (i := 142) rfl) rfl
theorem tw_143 : Cond.fieldLink "StageMachine$Player" 35 "StageMachine$Player" "at" "I" ∈ gTs := tw_a (List.mem_of_getElem? (i := 143) rfl) rfl
theorem tw_144 : Cond.fieldLink "StageMachine$Player" 39 "StageMachine$Player" "goingOn" "Z" ∈ gTs := tw_a (List.mem_of_getElem? (i := 144) rfl) rfl
theorem tw_145 : Cond.laysFinal "StageMachine$Player" "StageMachine$Player" "program" "LStageMachine$Bytes;" ∈ gTs := tw_a (List.mem_of_getElem? (i := 145) rfl) rfl
theorem tw_147 : Cond.laysFinal "StageMachine$Player" "StageMachine$Player" "variables" "[I" ∈ gTs := tw_a (List.mem_of_getElem? (i := 147) rfl) rfl
theorem tw_149 : Cond.laysFinal "StageMachine$Player" "StageMachine$Player" "channels" "[LStageMachine$Channel;" ∈ gTs := tw_a (List.mem_of_getElem? (i := 149) rfl) rfl
theorem tw_151 : Cond.laysFinal "StageMachine$Player" "StageMachine$Player" "painter" "LStageMachine$Painter;" ∈ gTs := tw_a (List.mem_of_getElem? (i := 151) rfl) rfl
theorem tw_153 : Cond.lays "StageMachine$Player" "StageMachine$Player" "at" "I" ∈ gTs := tw_a (List.mem_of_getElem? (i := 153) rfl) rfl
theorem tw_155 : Cond.lays "StageMachine$Player" "StageMachine$Player" "goingOn" "Z" ∈ gTs := tw_a (List.mem_of_getElem? (i := 155) rfl) rfl
theorem tw_157 : Cond.superclass "StageMachine$Player" "java/lang/Object" ∈ gTs := tw_a (List.mem_of_getElem? (i := 157) rfl) rfl
theorem tw_158 : Cond.fieldLink "StageMachine" 19 "StageMachine" "player" "LStageMachine$Player;" ∈ gTs := tw_a (List.mem_of_getElem? (i := 158) rfl) rfl
theorem tw_159 : Cond.fieldLink "StageMachine" 9 "StageMachine" "frames" "I" ∈ gTs := tw_a (List.mem_of_getElem? (i := 159) rfl) rfl
theorem tw_160 : Cond.fieldLink "StageMachine" 13 "StageMachine" "instructionsDone" "I" ∈ gTs := tw_a (List.mem_of_getElem? (i := 160) rfl) rfl
theorem tw_161 : Cond.laysFinal "StageMachine" "StageMachine" "player" "LStageMachine$Player;" ∈ gTs := tw_a (List.mem_of_getElem? (i := 161) rfl) rfl
theorem tw_163 : Cond.lays "StageMachine" "StageMachine" "frames" "I" ∈ gTs := tw_a (List.mem_of_getElem? (i := 163) rfl) rfl
theorem tw_165 : Cond.lays "StageMachine" "StageMachine" "instructionsDone" "I" ∈ gTs := tw_a (List.mem_of_getElem? (i := 165) rfl) rfl
theorem tw_167 : Cond.superclass "StageMachine" "java/lang/Object" ∈ gTs := tw_a (List.mem_of_getElem? (i := 167) rfl) rfl
theorem tw_168 : Cond.methodLink "StageMachineLaw" 13 ⟨"StageMachine", "put", "(III)Z"⟩ ∈ gTs := tw_a (List.mem_of_getElem? (i := 168) rfl) rfl
theorem tw_169 : Cond.instanceMethod ⟨"StageMachine", "put", "(III)Z"⟩ ∈ gTs := tw_a (List.mem_of_getElem? (i := 169) rfl) rfl
theorem tw_170 : Cond.selects "StageMachine" ⟨"StageMachine", "put", "(III)Z"⟩ ⟨"StageMachine", "put", "(III)Z"⟩ ∈ gTs := tw_a (List.mem_of_getElem? (i := 170) rfl) rfl
theorem tw_171 : Cond.code ⟨"StageMachine", "put", "(III)Z"⟩ prog_1_method_2_code 6 (some .boolean) ∈ gTs := tw_a (List.mem_of_getElem? (i := 171) rfl) rfl
theorem tw_172 : Cond.methodLink "StageMachine" 23 ⟨"StageMachine", "bytesOf", "(I)LStageMachine$Bytes;"⟩ ∈ gTs := tw_a (List.mem_of_getElem? (i := 172) rfl) rfl
theorem tw_174 : Cond.instanceMethod ⟨"StageMachine", "bytesOf", "(I)LStageMachine$Bytes;"⟩ ∈ gTs := tw_a (List.mem_of_getElem? (i := 174) rfl) rfl
theorem tw_175 : Cond.code ⟨"StageMachine", "bytesOf", "(I)LStageMachine$Bytes;"⟩ prog_1_method_11_code 2 (some (.object "StageMachine$Bytes")) ∈ gTs := tw_a (List.mem_of_getElem? (i := 175) rfl) rfl
theorem tw_176 : Cond.methodLink "StageMachine" 27 ⟨"StageMachine$Bytes", "write", "(II)V"⟩ ∈ gTs := tw_a (List.mem_of_getElem? (i := 176) rfl) rfl
theorem tw_177 : Cond.instanceMethod ⟨"StageMachine$Bytes", "write", "(II)V"⟩ ∈ gTs := tw_a (List.mem_of_getElem? (i := 177) rfl) rfl
theorem tw_178 : Cond.selects "StageMachine$Bytes" ⟨"StageMachine$Bytes", "write", "(II)V"⟩ ⟨"StageMachine$Bytes", "write", "(II)V"⟩ ∈ gTs := tw_a (List.mem_of_getElem? (i := 178) rfl) rfl
theorem tw_179 : Cond.code ⟨"StageMachine$Bytes", "write", "(II)V"⟩ prog_2_method_4_code 3 none ∈ gTs := tw_a (List.mem_of_getElem? (i := 179) rfl) rfl
theorem tw_180 : Cond.methodLink "StageMachineLaw" 18 ⟨"StageMachine", "byteAt", "(II)I"⟩ ∈ gTs := tw_a (List.mem_of_getElem? (i := 180) rfl) rfl
theorem tw_181 : Cond.instanceMethod ⟨"StageMachine", "byteAt", "(II)I"⟩ ∈ gTs := tw_a (List.mem_of_getElem? (i := 181) rfl) rfl
theorem tw_182 : Cond.selects "StageMachine" ⟨"StageMachine", "byteAt", "(II)I"⟩ ⟨"StageMachine", "byteAt", "(II)I"⟩ ∈ gTs := tw_a (List.mem_of_getElem? (i := 182) rfl) rfl
theorem tw_183 : Cond.code ⟨"StageMachine", "byteAt", "(II)I"⟩ prog_1_method_3_code 4 (some .int) ∈ gTs := tw_a (List.mem_of_getElem? (i := 183) rfl) rfl
theorem tw_184 : Cond.methodLink "StageMachine" 33 ⟨"StageMachine$Bytes", "read", "(I)I"⟩ ∈ gTs := tw_a (List.mem_of_getElem? (i := 184) rfl) rfl
theorem tw_185 : Cond.instanceMethod ⟨"StageMachine$Bytes", "read", "(I)I"⟩ ∈ gTs := tw_a (List.mem_of_getElem? (i := 185) rfl) rfl
theorem tw_186 : Cond.selects "StageMachine$Bytes" ⟨"StageMachine$Bytes", "read", "(I)I"⟩ ⟨"StageMachine$Bytes", "read", "(I)I"⟩ ∈ gTs := tw_a (List.mem_of_getElem? (i := 186) rfl) rfl
theorem tw_187 : Cond.code ⟨"StageMachine$Bytes", "read", "(I)I"⟩ prog_2_method_2_code 2 (some .int) ∈ gTs := tw_a (List.mem_of_getElem? (i := 187) rfl) rfl
theorem tw_188 : Cond.methodLink "StageMachineLaw" 23 ⟨"StageMachine", "set", "(II)Z"⟩ ∈ gTs := tw_a (List.mem_of_getElem? (i := 188) rfl) rfl
theorem tw_189 : Cond.instanceMethod ⟨"StageMachine", "set", "(II)Z"⟩ ∈ gTs := tw_a (List.mem_of_getElem? (i := 189) rfl) rfl
theorem tw_190 : Cond.selects "StageMachine" ⟨"StageMachine", "set", "(II)Z"⟩ ⟨"StageMachine", "set", "(II)Z"⟩ ∈ gTs := tw_a (List.mem_of_getElem? (i := 190) rfl) rfl
theorem tw_191 : Cond.code ⟨"StageMachine", "set", "(II)Z"⟩ prog_1_method_4_code 3 (some .boolean) ∈ gTs := tw_a (List.mem_of_getElem? (i := 191) rfl) rfl
theorem tw_192 : Cond.methodLink "StageMachine" 37 ⟨"StageMachine", "isBelow", "(II)Z"⟩ ∈ gTs := tw_a (List.mem_of_getElem? (i := 192) rfl) rfl
theorem tw_193 : Cond.static ⟨"StageMachine", "isBelow", "(II)Z"⟩ ∈ gTs := tw_a (List.mem_of_getElem? (i := 193) rfl) rfl
theorem tw_194 : Cond.code ⟨"StageMachine", "isBelow", "(II)Z"⟩ prog_1_method_12_code 2 (some .boolean) ∈ gTs := tw_a (List.mem_of_getElem? (i := 194) rfl) rfl
theorem tw_195 : Cond.methodLink "StageMachineLaw" 28 ⟨"StageMachine", "get", "(I)I"⟩ ∈ gTs := tw_a (List.mem_of_getElem? (i := 195) rfl) rfl
theorem tw_196 : Cond.instanceMethod ⟨"StageMachine", "get", "(I)I"⟩ ∈ gTs := tw_a (List.mem_of_getElem? (i := 196) rfl) rfl
theorem tw_197 : Cond.selects "StageMachine" ⟨"StageMachine", "get", "(I)I"⟩ ⟨"StageMachine", "get", "(I)I"⟩ ∈ gTs := tw_a (List.mem_of_getElem? (i := 197) rfl) rfl
theorem tw_198 : Cond.code ⟨"StageMachine", "get", "(I)I"⟩ prog_1_method_5_code 2 (some .int) ∈ gTs := tw_a (List.mem_of_getElem? (i := 198) rfl) rfl
theorem tw_199 : Cond.methodLink "StageMachineLaw" 33 ⟨"StageMachine", "ask", "(II)Z"⟩ ∈ gTs := tw_a (List.mem_of_getElem? (i := 199) rfl) rfl
theorem tw_200 : Cond.instanceMethod ⟨"StageMachine", "ask", "(II)Z"⟩ ∈ gTs := tw_a (List.mem_of_getElem? (i := 200) rfl) rfl
theorem tw_201 : Cond.selects "StageMachine" ⟨"StageMachine", "ask", "(II)Z"⟩ ⟨"StageMachine", "ask", "(II)Z"⟩ ∈ gTs := tw_a (List.mem_of_getElem? (i := 201) rfl) rfl
theorem tw_202 : Cond.code ⟨"StageMachine", "ask", "(II)Z"⟩ prog_1_method_6_code 3 (some .boolean) ∈ gTs := tw_a (List.mem_of_getElem? (i := 202) rfl) rfl
theorem tw_203 : Cond.methodLink "StageMachineLaw" 37 ⟨"StageMachine", "frame", "(I)I"⟩ ∈ gTs := tw_a (List.mem_of_getElem? (i := 203) rfl) rfl
theorem tw_204 : Cond.instanceMethod ⟨"StageMachine", "frame", "(I)I"⟩ ∈ gTs := tw_a (List.mem_of_getElem? (i := 204) rfl) rfl
theorem tw_205 : Cond.selects "StageMachine" ⟨"StageMachine", "frame", "(I)I"⟩ ⟨"StageMachine", "frame", "(I)I"⟩ ∈ gTs := tw_a (List.mem_of_getElem? (i := 205) rfl) rfl
theorem tw_206 : Cond.code ⟨"StageMachine", "frame", "(I)I"⟩ prog_1_method_7_code 4 (some .int) ∈ gTs := tw_a (List.mem_of_getElem? (i := 206) rfl) rfl
theorem tw_207 : Cond.methodLink "StageMachine" 58 ⟨"StageMachine$Painter", "forgetCounts", "()V"⟩ ∈ gTs := tw_a (List.mem_of_getElem? (i := 207) rfl) rfl
theorem tw_208 : Cond.instanceMethod ⟨"StageMachine$Painter", "forgetCounts", "()V"⟩ ∈ gTs := tw_a (List.mem_of_getElem? (i := 208) rfl) rfl
theorem tw_209 : Cond.selects "StageMachine$Painter" ⟨"StageMachine$Painter", "forgetCounts", "()V"⟩ ⟨"StageMachine$Painter", "forgetCounts", "()V"⟩ ∈ gTs := tw_a (List.mem_of_getElem? (i := 209) rfl) rfl
theorem tw_210 : Cond.code ⟨"StageMachine$Painter", "forgetCounts", "()V"⟩ prog_5_method_2_code 1 none ∈ gTs := tw_a (List.mem_of_getElem? (i := 210) rfl) rfl
theorem tw_211 : Cond.methodLink "StageMachine" 63 ⟨"StageMachine$Channel", "settleAsked", "()V"⟩ ∈ gTs := tw_a (List.mem_of_getElem? (i := 211) rfl) rfl
theorem tw_212 : Cond.instanceMethod ⟨"StageMachine$Channel", "settleAsked", "()V"⟩ ∈ gTs := tw_a (List.mem_of_getElem? (i := 212) rfl) rfl
theorem tw_213 : Cond.selects "StageMachine$Channel" ⟨"StageMachine$Channel", "settleAsked", "()V"⟩ ⟨"StageMachine$Channel", "settleAsked", "()V"⟩ ∈ gTs := tw_a (List.mem_of_getElem? (i := 213) rfl) rfl
theorem tw_214 : Cond.code ⟨"StageMachine$Channel", "settleAsked", "()V"⟩ prog_3_method_3_code 1 none ∈ gTs := tw_a (List.mem_of_getElem? (i := 214) rfl) rfl
theorem tw_215 : Cond.methodLink "StageMachine" 66 ⟨"StageMachine$Channel", "isRunning", "()Z"⟩ ∈ gTs := tw_a (List.mem_of_getElem? (i := 215) rfl) rfl
theorem tw_216 : Cond.instanceMethod ⟨"StageMachine$Channel", "isRunning", "()Z"⟩ ∈ gTs := tw_a (List.mem_of_getElem? (i := 216) rfl) rfl
theorem tw_217 : Cond.selects "StageMachine$Channel" ⟨"StageMachine$Channel", "isRunning", "()Z"⟩ ⟨"StageMachine$Channel", "isRunning", "()Z"⟩ ∈ gTs := tw_a (List.mem_of_getElem? (i := 217) rfl) rfl
theorem tw_218 : Cond.code ⟨"StageMachine$Channel", "isRunning", "()Z"⟩ prog_3_method_2_code 1 (some .boolean) ∈ gTs := tw_a (List.mem_of_getElem? (i := 218) rfl) rfl
theorem tw_219 : Cond.methodLink "StageMachine" 70 ⟨"StageMachine$Player", "takeTurn", "(LStageMachine$Channel;I)I"⟩ ∈ gTs := tw_a (List.mem_of_getElem? (i := 219) rfl) rfl
theorem tw_220 : Cond.instanceMethod ⟨"StageMachine$Player", "takeTurn", "(LStageMachine$Channel;I)I"⟩ ∈ gTs := tw_a (List.mem_of_getElem? (i := 220) rfl) rfl
theorem tw_221 : Cond.selects "StageMachine$Player" ⟨"StageMachine$Player", "takeTurn", "(LStageMachine$Channel;I)I"⟩ ⟨"StageMachine$Player", "takeTurn", "(LStageMachine$Channel;I)I"⟩ ∈ gTs := tw_a (List.mem_of_getElem? (i := 221) rfl) rfl
theorem tw_222 : Cond.code ⟨"StageMachine$Player", "takeTurn", "(LStageMachine$Channel;I)I"⟩ prog_6_method_2_code 5 (some .int) ∈ gTs := tw_a (List.mem_of_getElem? (i := 222) rfl) rfl
theorem tw_223 : Cond.methodLink "StageMachine$Player" 47 ⟨"StageMachine$Player", "doInstruction", "(LStageMachine$Channel;)V"⟩ ∈ gTs := tw_a (List.mem_of_getElem? (i := 223) rfl) rfl
theorem tw_225 : Cond.instanceMethod ⟨"StageMachine$Player", "doInstruction", "(LStageMachine$Channel;)V"⟩ ∈ gTs := tw_a (List.mem_of_getElem? (i := 225) rfl) rfl
theorem tw_226 : Cond.code ⟨"StageMachine$Player", "doInstruction", "(LStageMachine$Channel;)V"⟩ prog_6_method_3_code 3 none ∈ gTs := tw_a (List.mem_of_getElem? (i := 226) rfl) rfl
theorem tw_227 : Cond.methodLink "StageMachine$Player" 51 ⟨"StageMachine$Player", "nextByte", "()I"⟩ ∈ gTs := tw_a (List.mem_of_getElem? (i := 227) rfl) rfl
theorem tw_229 : Cond.instanceMethod ⟨"StageMachine$Player", "nextByte", "()I"⟩ ∈ gTs := tw_a (List.mem_of_getElem? (i := 229) rfl) rfl
theorem tw_230 : Cond.code ⟨"StageMachine$Player", "nextByte", "()I"⟩ prog_6_method_18_code 2 (some .int) ∈ gTs := tw_a (List.mem_of_getElem? (i := 230) rfl) rfl
theorem tw_231 : Cond.methodLink "StageMachine$Player" 155 ⟨"StageMachine$Bytes", "read", "(I)I"⟩ ∈ gTs := tw_a (List.mem_of_getElem? (i := 231) rfl) rfl
theorem tw_232 : Cond.methodLink "StageMachine$Player" 55 ⟨"StageMachine$Player", "compute", "(I)V"⟩ ∈ gTs := tw_a (List.mem_of_getElem? (i := 232) rfl) rfl
theorem tw_234 : Cond.instanceMethod ⟨"StageMachine$Player", "compute", "(I)V"⟩ ∈ gTs := tw_a (List.mem_of_getElem? (i := 234) rfl) rfl
theorem tw_235 : Cond.code ⟨"StageMachine$Player", "compute", "(I)V"⟩ prog_6_method_4_code 3 none ∈ gTs := tw_a (List.mem_of_getElem? (i := 235) rfl) rfl
theorem tw_236 : Cond.methodLink "StageMachine$Player" 93 ⟨"StageMachine$Player", "nextVariable", "()I"⟩ ∈ gTs := tw_a (List.mem_of_getElem? (i := 236) rfl) rfl
theorem tw_238 : Cond.instanceMethod ⟨"StageMachine$Player", "nextVariable", "()I"⟩ ∈ gTs := tw_a (List.mem_of_getElem? (i := 238) rfl) rfl
theorem tw_239 : Cond.code ⟨"StageMachine$Player", "nextVariable", "()I"⟩ prog_6_method_20_code 1 (some .int) ∈ gTs := tw_a (List.mem_of_getElem? (i := 239) rfl) rfl
theorem tw_240 : Cond.methodLink "StageMachine$Player" 96 ⟨"StageMachine$Player", "nextNumber", "()I"⟩ ∈ gTs := tw_b (List.mem_of_getElem? (i := 0) rfl) rfl
theorem tw_242 : Cond.instanceMethod ⟨"StageMachine$Player", "nextNumber", "()I"⟩ ∈ gTs := tw_b (List.mem_of_getElem? (i := 2) rfl) rfl
theorem tw_243 : Cond.code ⟨"StageMachine$Player", "nextNumber", "()I"⟩ prog_6_method_21_code 1 (some .int) ∈ gTs := tw_b (List.mem_of_getElem? (i := 3) rfl) rfl
theorem tw_244 : Cond.methodLink "StageMachine$Player" 161 ⟨"StageMachine$Player", "nextPair", "()I"⟩ ∈ gTs := tw_b (List.mem_of_getElem? (i := 4) rfl) rfl
theorem tw_246 : Cond.instanceMethod ⟨"StageMachine$Player", "nextPair", "()I"⟩ ∈ gTs := tw_b (List.mem_of_getElem? (i := 6) rfl) rfl
theorem tw_247 : Cond.code ⟨"StageMachine$Player", "nextPair", "()I"⟩ prog_6_method_19_code 2 (some .int) ∈ gTs := tw_b (List.mem_of_getElem? (i := 7) rfl) rfl
theorem tw_248 : Cond.methodLink "StageMachine$Player" 158 ⟨"StageMachine$Bytes", "readPair", "(I)I"⟩ ∈ gTs := tw_b (List.mem_of_getElem? (i := 8) rfl) rfl
theorem tw_249 : Cond.instanceMethod ⟨"StageMachine$Bytes", "readPair", "(I)I"⟩ ∈ gTs := tw_b (List.mem_of_getElem? (i := 9) rfl) rfl
theorem tw_250 : Cond.selects "StageMachine$Bytes" ⟨"StageMachine$Bytes", "readPair", "(I)I"⟩ ⟨"StageMachine$Bytes", "readPair", "(I)I"⟩ ∈ gTs := tw_b (List.mem_of_getElem? (i := 10) rfl) rfl
theorem tw_251 : Cond.code ⟨"StageMachine$Bytes", "readPair", "(I)I"⟩ prog_2_method_3_code 3 (some .int) ∈ gTs := tw_b (List.mem_of_getElem? (i := 11) rfl) rfl
theorem tw_252 : Cond.methodLink "StageMachine$Player" 99 ⟨"StageMachine$Player", "store", "(II)V"⟩ ∈ gTs := tw_b (List.mem_of_getElem? (i := 12) rfl) rfl
theorem tw_254 : Cond.instanceMethod ⟨"StageMachine$Player", "store", "(II)V"⟩ ∈ gTs := tw_b (List.mem_of_getElem? (i := 14) rfl) rfl
theorem tw_255 : Cond.code ⟨"StageMachine$Player", "store", "(II)V"⟩ prog_6_method_17_code 3 none ∈ gTs := tw_b (List.mem_of_getElem? (i := 15) rfl) rfl
theorem tw_256 : Cond.methodLink "StageMachine$Player" 59 ⟨"StageMachine$Player", "nextAddress", "()I"⟩ ∈ gTs := tw_b (List.mem_of_getElem? (i := 16) rfl) rfl
theorem tw_258 : Cond.instanceMethod ⟨"StageMachine$Player", "nextAddress", "()I"⟩ ∈ gTs := tw_b (List.mem_of_getElem? (i := 18) rfl) rfl
theorem tw_259 : Cond.code ⟨"StageMachine$Player", "nextAddress", "()I"⟩ prog_6_method_22_code 1 (some .int) ∈ gTs := tw_b (List.mem_of_getElem? (i := 19) rfl) rfl
theorem tw_260 : Cond.methodLink "StageMachine$Player" 62 ⟨"StageMachine$Player", "callAddress", "(LStageMachine$Channel;)V"⟩ ∈ gTs := tw_b (List.mem_of_getElem? (i := 20) rfl) rfl
theorem tw_262 : Cond.instanceMethod ⟨"StageMachine$Player", "callAddress", "(LStageMachine$Channel;)V"⟩ ∈ gTs := tw_b (List.mem_of_getElem? (i := 22) rfl) rfl
theorem tw_263 : Cond.code ⟨"StageMachine$Player", "callAddress", "(LStageMachine$Channel;)V"⟩ prog_6_method_5_code 3 none ∈ gTs := tw_b (List.mem_of_getElem? (i := 23) rfl) rfl
theorem tw_264 : Cond.methodLink "StageMachine$Player" 103 ⟨"StageMachine$Channel", "pushReturn", "(I)Z"⟩ ∈ gTs := tw_b (List.mem_of_getElem? (i := 24) rfl) rfl
theorem tw_265 : Cond.instanceMethod ⟨"StageMachine$Channel", "pushReturn", "(I)Z"⟩ ∈ gTs := tw_b (List.mem_of_getElem? (i := 25) rfl) rfl
theorem tw_266 : Cond.selects "StageMachine$Channel" ⟨"StageMachine$Channel", "pushReturn", "(I)Z"⟩ ⟨"StageMachine$Channel", "pushReturn", "(I)Z"⟩ ∈ gTs := tw_b (List.mem_of_getElem? (i := 26) rfl) rfl
theorem tw_267 : Cond.code ⟨"StageMachine$Channel", "pushReturn", "(I)Z"⟩ prog_3_method_4_code 2 (some .boolean) ∈ gTs := tw_b (List.mem_of_getElem? (i := 27) rfl) rfl
theorem tw_268 : Cond.methodLink "StageMachine$Player" 89 ⟨"StageMachine$Player", "fail", "(LStageMachine$Channel;I)V"⟩ ∈ gTs := tw_b (List.mem_of_getElem? (i := 28) rfl) rfl
theorem tw_270 : Cond.instanceMethod ⟨"StageMachine$Player", "fail", "(LStageMachine$Channel;I)V"⟩ ∈ gTs := tw_b (List.mem_of_getElem? (i := 30) rfl) rfl
theorem tw_271 : Cond.code ⟨"StageMachine$Player", "fail", "(LStageMachine$Channel;I)V"⟩ prog_6_method_15_code 3 none ∈ gTs := tw_b (List.mem_of_getElem? (i := 31) rfl) rfl
theorem tw_272 : Cond.methodLink "StageMachine$Player" 74 ⟨"StageMachine$Player", "end", "()V"⟩ ∈ gTs := tw_b (List.mem_of_getElem? (i := 32) rfl) rfl
theorem tw_274 : Cond.instanceMethod ⟨"StageMachine$Player", "end", "()V"⟩ ∈ gTs := tw_b (List.mem_of_getElem? (i := 34) rfl) rfl
theorem tw_275 : Cond.code ⟨"StageMachine$Player", "end", "()V"⟩ prog_6_method_16_code 1 none ∈ gTs := tw_b (List.mem_of_getElem? (i := 35) rfl) rfl
theorem tw_276 : Cond.methodLink "StageMachine$Player" 65 ⟨"StageMachine$Player", "comeBack", "(LStageMachine$Channel;)V"⟩ ∈ gTs := tw_b (List.mem_of_getElem? (i := 36) rfl) rfl
theorem tw_278 : Cond.instanceMethod ⟨"StageMachine$Player", "comeBack", "(LStageMachine$Channel;)V"⟩ ∈ gTs := tw_b (List.mem_of_getElem? (i := 38) rfl) rfl
theorem tw_279 : Cond.code ⟨"StageMachine$Player", "comeBack", "(LStageMachine$Channel;)V"⟩ prog_6_method_6_code 3 none ∈ gTs := tw_b (List.mem_of_getElem? (i := 39) rfl) rfl
theorem tw_280 : Cond.methodLink "StageMachine$Player" 107 ⟨"StageMachine$Channel", "popReturn", "()I"⟩ ∈ gTs := tw_b (List.mem_of_getElem? (i := 40) rfl) rfl
theorem tw_281 : Cond.instanceMethod ⟨"StageMachine$Channel", "popReturn", "()I"⟩ ∈ gTs := tw_b (List.mem_of_getElem? (i := 41) rfl) rfl
theorem tw_282 : Cond.selects "StageMachine$Channel" ⟨"StageMachine$Channel", "popReturn", "()I"⟩ ⟨"StageMachine$Channel", "popReturn", "()I"⟩ ∈ gTs := tw_b (List.mem_of_getElem? (i := 42) rfl) rfl
theorem tw_283 : Cond.code ⟨"StageMachine$Channel", "popReturn", "()I"⟩ prog_3_method_5_code 1 (some .int) ∈ gTs := tw_b (List.mem_of_getElem? (i := 43) rfl) rfl
theorem tw_284 : Cond.methodLink "StageMachine$Player" 68 ⟨"StageMachine$Player", "loop", "()V"⟩ ∈ gTs := tw_b (List.mem_of_getElem? (i := 44) rfl) rfl
theorem tw_286 : Cond.instanceMethod ⟨"StageMachine$Player", "loop", "()V"⟩ ∈ gTs := tw_b (List.mem_of_getElem? (i := 46) rfl) rfl
theorem tw_287 : Cond.code ⟨"StageMachine$Player", "loop", "()V"⟩ prog_6_method_7_code 3 none ∈ gTs := tw_b (List.mem_of_getElem? (i := 47) rfl) rfl
theorem tw_288 : Cond.methodLink "StageMachine$Player" 71 ⟨"StageMachine$Player", "jumpIf", "(LStageMachine$Channel;)V"⟩ ∈ gTs := tw_b (List.mem_of_getElem? (i := 48) rfl) rfl
theorem tw_290 : Cond.instanceMethod ⟨"StageMachine$Player", "jumpIf", "(LStageMachine$Channel;)V"⟩ ∈ gTs := tw_b (List.mem_of_getElem? (i := 50) rfl) rfl
theorem tw_291 : Cond.code ⟨"StageMachine$Player", "jumpIf", "(LStageMachine$Channel;)V"⟩ prog_6_method_8_code 7 none ∈ gTs := tw_b (List.mem_of_getElem? (i := 51) rfl) rfl
theorem tw_292 : Cond.methodLink "StageMachine$Player" 110 ⟨"StageMachine$Player", "nextCompared", "(I)I"⟩ ∈ gTs := tw_b (List.mem_of_getElem? (i := 52) rfl) rfl
theorem tw_294 : Cond.instanceMethod ⟨"StageMachine$Player", "nextCompared", "(I)I"⟩ ∈ gTs := tw_b (List.mem_of_getElem? (i := 54) rfl) rfl
theorem tw_295 : Cond.code ⟨"StageMachine$Player", "nextCompared", "(I)I"⟩ prog_6_method_9_code 2 (some .int) ∈ gTs := tw_b (List.mem_of_getElem? (i := 55) rfl) rfl
theorem tw_296 : Cond.methodLink "StageMachine$Player" 114 ⟨"StageMachine$Player", "compares", "(III)Z"⟩ ∈ gTs := tw_b (List.mem_of_getElem? (i := 56) rfl) rfl
theorem tw_297 : Cond.static ⟨"StageMachine$Player", "compares", "(III)Z"⟩ ∈ gTs := tw_b (List.mem_of_getElem? (i := 57) rfl) rfl
theorem tw_298 : Cond.code ⟨"StageMachine$Player", "compares", "(III)Z"⟩ prog_6_method_10_code 3 (some .boolean) ∈ gTs := tw_b (List.mem_of_getElem? (i := 58) rfl) rfl
theorem tw_299 : Cond.methodLink "StageMachine$Player" 77 ⟨"StageMachine$Player", "startOther", "()V"⟩ ∈ gTs := tw_b (List.mem_of_getElem? (i := 59) rfl) rfl
theorem tw_301 : Cond.instanceMethod ⟨"StageMachine$Player", "startOther", "()V"⟩ ∈ gTs := tw_b (List.mem_of_getElem? (i := 61) rfl) rfl
theorem tw_302 : Cond.code ⟨"StageMachine$Player", "startOther", "()V"⟩ prog_6_method_11_code 2 none ∈ gTs := tw_b (List.mem_of_getElem? (i := 62) rfl) rfl
theorem tw_303 : Cond.methodLink "StageMachine$Player" 80 ⟨"StageMachine$Player", "askOfEach", "(LStageMachine$Channel;)V"⟩ ∈ gTs := tw_b (List.mem_of_getElem? (i := 63) rfl) rfl
theorem tw_305 : Cond.instanceMethod ⟨"StageMachine$Player", "askOfEach", "(LStageMachine$Channel;)V"⟩ ∈ gTs := tw_b (List.mem_of_getElem? (i := 65) rfl) rfl
theorem tw_306 : Cond.code ⟨"StageMachine$Player", "askOfEach", "(LStageMachine$Channel;)V"⟩ prog_6_method_12_code 6 none ∈ gTs := tw_b (List.mem_of_getElem? (i := 66) rfl) rfl
theorem tw_307 : Cond.methodLink "StageMachine$Player" 83 ⟨"StageMachine$Player", "handlePages", "(I)V"⟩ ∈ gTs := tw_b (List.mem_of_getElem? (i := 67) rfl) rfl
theorem tw_309 : Cond.instanceMethod ⟨"StageMachine$Player", "handlePages", "(I)V"⟩ ∈ gTs := tw_b (List.mem_of_getElem? (i := 69) rfl) rfl
theorem tw_310 : Cond.code ⟨"StageMachine$Player", "handlePages", "(I)V"⟩ prog_6_method_13_code 4 none ∈ gTs := tw_b (List.mem_of_getElem? (i := 70) rfl) rfl
theorem tw_311 : Cond.methodLink "StageMachine$Player" 128 ⟨"StageMachine$Pages", "pageOf", "(I)I"⟩ ∈ gTs := tw_b (List.mem_of_getElem? (i := 71) rfl) rfl
theorem tw_312 : Cond.instanceMethod ⟨"StageMachine$Pages", "pageOf", "(I)I"⟩ ∈ gTs := tw_b (List.mem_of_getElem? (i := 72) rfl) rfl
theorem tw_313 : Cond.selects "StageMachine$Pages" ⟨"StageMachine$Pages", "pageOf", "(I)I"⟩ ⟨"StageMachine$Pages", "pageOf", "(I)I"⟩ ∈ gTs := tw_b (List.mem_of_getElem? (i := 73) rfl) rfl
theorem tw_314 : Cond.code ⟨"StageMachine$Pages", "pageOf", "(I)I"⟩ prog_4_method_2_code 2 (some .int) ∈ gTs := tw_b (List.mem_of_getElem? (i := 74) rfl) rfl
theorem tw_315 : Cond.methodLink "StageMachine$Player" 136 ⟨"StageMachine$Pages", "fill", "(II)V"⟩ ∈ gTs := tw_b (List.mem_of_getElem? (i := 75) rfl) rfl
theorem tw_316 : Cond.instanceMethod ⟨"StageMachine$Pages", "fill", "(II)V"⟩ ∈ gTs := tw_b (List.mem_of_getElem? (i := 76) rfl) rfl
theorem tw_317 : Cond.selects "StageMachine$Pages" ⟨"StageMachine$Pages", "fill", "(II)V"⟩ ⟨"StageMachine$Pages", "fill", "(II)V"⟩ ∈ gTs := tw_b (List.mem_of_getElem? (i := 77) rfl) rfl
theorem tw_318 : Cond.code ⟨"StageMachine$Pages", "fill", "(II)V"⟩ prog_4_method_4_code 4 none ∈ gTs := tw_b (List.mem_of_getElem? (i := 78) rfl) rfl
theorem tw_319 : Cond.methodLink "StageMachine$Pages" 22 ⟨"java/util/Arrays", "fill", "([BIIB)V"⟩ ∈ gTs := tw_b (List.mem_of_getElem? (i := 79) rfl) rfl
theorem tw_320 : Cond.static ⟨"java/util/Arrays", "fill", "([BIIB)V"⟩ ∈ gTs := tw_b (List.mem_of_getElem? (i := 80) rfl) rfl
theorem tw_321 : Cond.code ⟨"java/util/Arrays", "fill", "([BIIB)V"⟩ prog_11_method_110_code 5 none ∈ gTs := tw_b (List.mem_of_getElem? (i := 81) rfl) rfl
theorem tw_322 : Cond.methodLink "java/util/Arrays" 13 ⟨"java/util/Arrays", "rangeCheck", "(III)V"⟩ ∈ gTs := tw_b (List.mem_of_getElem? (i := 82) rfl) rfl
theorem tw_323 : Cond.static ⟨"java/util/Arrays", "rangeCheck", "(III)V"⟩ ∈ gTs := tw_b (List.mem_of_getElem? (i := 83) rfl) rfl
theorem tw_324 : Cond.code ⟨"java/util/Arrays", "rangeCheck", "(III)V"⟩ prog_11_method_30_code 3 none ∈ gTs := tw_b (List.mem_of_getElem? (i := 84) rfl) rfl
theorem tw_325 : Cond.methodLink "StageMachine$Player" 139 ⟨"StageMachine$Pages", "copy", "(II)V"⟩ ∈ gTs := tw_b (List.mem_of_getElem? (i := 85) rfl) rfl
theorem tw_326 : Cond.instanceMethod ⟨"StageMachine$Pages", "copy", "(II)V"⟩ ∈ gTs := tw_b (List.mem_of_getElem? (i := 86) rfl) rfl
theorem tw_327 : Cond.selects "StageMachine$Pages" ⟨"StageMachine$Pages", "copy", "(II)V"⟩ ⟨"StageMachine$Pages", "copy", "(II)V"⟩ ∈ gTs := tw_b (List.mem_of_getElem? (i := 87) rfl) rfl
theorem tw_328 : Cond.code ⟨"StageMachine$Pages", "copy", "(II)V"⟩ prog_4_method_5_code 3 none ∈ gTs := tw_b (List.mem_of_getElem? (i := 88) rfl) rfl
theorem tw_329 : Cond.methodLink "StageMachine$Pages" 28 ⟨"java/lang/System", "arraycopy", "(Ljava/lang/Object;ILjava/lang/Object;II)V"⟩ ∈ gTs := tw_b (List.mem_of_getElem? (i := 89) rfl) rfl
theorem tw_330 : Cond.static ⟨"java/lang/System", "arraycopy", "(Ljava/lang/Object;ILjava/lang/Object;II)V"⟩ ∈ gTs := tw_b (List.mem_of_getElem? (i := 90) rfl) rfl
theorem tw_331 : Cond.native ⟨"java/lang/System", "arraycopy", "(Ljava/lang/Object;ILjava/lang/Object;II)V"⟩ ∈ gTs := tw_b (List.mem_of_getElem? (i := 91) rfl) rfl
theorem tw_332 : Cond.methodLink "StageMachine$Player" 86 ⟨"StageMachine$Player", "draw", "()V"⟩ ∈ gTs := tw_b (List.mem_of_getElem? (i := 92) rfl) rfl
theorem tw_334 : Cond.instanceMethod ⟨"StageMachine$Player", "draw", "()V"⟩ ∈ gTs := tw_b (List.mem_of_getElem? (i := 94) rfl) rfl
theorem tw_335 : Cond.code ⟨"StageMachine$Player", "draw", "()V"⟩ prog_6_method_14_code 6 none ∈ gTs := tw_b (List.mem_of_getElem? (i := 95) rfl) rfl
theorem tw_336 : Cond.methodLinkNest "StageMachine$Player" 148 ⟨"StageMachine$Painter", "drawShape", "(IIIIII)V"⟩ "StageMachine" ∈ gTs := tw_b (List.mem_of_getElem? (i := 96) rfl) rfl
theorem tw_338 : Cond.instanceMethod ⟨"StageMachine$Painter", "drawShape", "(IIIIII)V"⟩ ∈ gTs := tw_b (List.mem_of_getElem? (i := 98) rfl) rfl
theorem tw_339 : Cond.code ⟨"StageMachine$Painter", "drawShape", "(IIIIII)V"⟩ prog_5_method_3_code 8 none ∈ gTs := tw_b (List.mem_of_getElem? (i := 99) rfl) rfl
theorem tw_340 : Cond.methodLink "StageMachine$Painter" 45 ⟨"StageMachine$Bytes", "read", "(I)I"⟩ ∈ gTs := tw_b (List.mem_of_getElem? (i := 100) rfl) rfl
theorem tw_341 : Cond.methodLink "StageMachine$Painter" 49 ⟨"StageMachine$Painter", "placePairs", "(IIII)V"⟩ ∈ gTs := tw_b (List.mem_of_getElem? (i := 101) rfl) rfl
theorem tw_343 : Cond.instanceMethod ⟨"StageMachine$Painter", "placePairs", "(IIII)V"⟩ ∈ gTs := tw_b (List.mem_of_getElem? (i := 103) rfl) rfl
theorem tw_344 : Cond.code ⟨"StageMachine$Painter", "placePairs", "(IIII)V"⟩ prog_5_method_5_code 10 none ∈ gTs := tw_b (List.mem_of_getElem? (i := 104) rfl) rfl
theorem tw_345 : Cond.methodLink "StageMachine$Painter" 61 ⟨"StageMachine$Painter", "scaled", "(II)I"⟩ ∈ gTs := tw_b (List.mem_of_getElem? (i := 105) rfl) rfl
theorem tw_346 : Cond.static ⟨"StageMachine$Painter", "scaled", "(II)I"⟩ ∈ gTs := tw_b (List.mem_of_getElem? (i := 106) rfl) rfl
theorem tw_347 : Cond.code ⟨"StageMachine$Painter", "scaled", "(II)I"⟩ prog_5_method_9_code 2 (some .int) ∈ gTs := tw_b (List.mem_of_getElem? (i := 107) rfl) rfl
theorem tw_348 : Cond.methodLink "StageMachine$Painter" 72 ⟨"java/lang/Math", "floorDiv", "(II)I"⟩ ∈ gTs := tw_b (List.mem_of_getElem? (i := 108) rfl) rfl
theorem tw_349 : Cond.static ⟨"java/lang/Math", "floorDiv", "(II)I"⟩ ∈ gTs := tw_b (List.mem_of_getElem? (i := 109) rfl) rfl
theorem tw_350 : Cond.code ⟨"java/lang/Math", "floorDiv", "(II)I"⟩ prog_9_method_47_code 3 (some .int) ∈ gTs := tw_b (List.mem_of_getElem? (i := 110) rfl) rfl
theorem tw_351 : Cond.methodLink "StageMachine$Painter" 53 ⟨"StageMachine$Painter", "drawPolygon", "(II)V"⟩ ∈ gTs := tw_b (List.mem_of_getElem? (i := 111) rfl) rfl
theorem tw_353 : Cond.instanceMethod ⟨"StageMachine$Painter", "drawPolygon", "(II)V"⟩ ∈ gTs := tw_b (List.mem_of_getElem? (i := 113) rfl) rfl
theorem tw_354 : Cond.code ⟨"StageMachine$Painter", "drawPolygon", "(II)V"⟩ prog_5_method_6_code 5 none ∈ gTs := tw_b (List.mem_of_getElem? (i := 114) rfl) rfl
theorem tw_355 : Cond.methodLink "StageMachine$Painter" 77 ⟨"StageMachine$Painter", "drawRows", "(III)V"⟩ ∈ gTs := tw_b (List.mem_of_getElem? (i := 115) rfl) rfl
theorem tw_357 : Cond.instanceMethod ⟨"StageMachine$Painter", "drawRows", "(III)V"⟩ ∈ gTs := tw_b (List.mem_of_getElem? (i := 117) rfl) rfl
theorem tw_358 : Cond.code ⟨"StageMachine$Painter", "drawRows", "(III)V"⟩ prog_5_method_7_code 15 none ∈ gTs := tw_b (List.mem_of_getElem? (i := 118) rfl) rfl
theorem tw_359 : Cond.constantLong "StageMachine$Painter" 81 (65536 : Int64) ∈ gTs := tw_b (List.mem_of_getElem? (i := 119) rfl) rfl
theorem tw_360 : Cond.methodLink "StageMachine$Painter" 83 ⟨"java/lang/Math", "floorDiv", "(JJ)J"⟩ ∈ gTs := tw_b (List.mem_of_getElem? (i := 120) rfl) rfl
theorem tw_361 : Cond.static ⟨"java/lang/Math", "floorDiv", "(JJ)J"⟩ ∈ gTs := tw_b (List.mem_of_getElem? (i := 121) rfl) rfl
theorem tw_362 : Cond.code ⟨"java/lang/Math", "floorDiv", "(JJ)J"⟩ prog_9_method_49_code 6 (some .long) ∈ gTs := tw_b (List.mem_of_getElem? (i := 122) rfl) rfl
theorem tw_363 : Cond.methodLink "StageMachine$Painter" 86 ⟨"java/lang/Math", "max", "(II)I"⟩ ∈ gTs := tw_b (List.mem_of_getElem? (i := 123) rfl) rfl
theorem tw_364 : Cond.static ⟨"java/lang/Math", "max", "(II)I"⟩ ∈ gTs := tw_b (List.mem_of_getElem? (i := 124) rfl) rfl
theorem tw_365 : Cond.code ⟨"java/lang/Math", "max", "(II)I"⟩ prog_9_method_65_code 2 (some .int) ∈ gTs := tw_b (List.mem_of_getElem? (i := 125) rfl) rfl
theorem tw_366 : Cond.methodLink "StageMachine$Painter" 89 ⟨"java/lang/Math", "min", "(II)I"⟩ ∈ gTs := tw_b (List.mem_of_getElem? (i := 126) rfl) rfl
theorem tw_367 : Cond.static ⟨"java/lang/Math", "min", "(II)I"⟩ ∈ gTs := tw_b (List.mem_of_getElem? (i := 127) rfl) rfl
theorem tw_368 : Cond.code ⟨"java/lang/Math", "min", "(II)I"⟩ prog_9_method_69_code 2 (some .int) ∈ gTs := tw_b (List.mem_of_getElem? (i := 128) rfl) rfl
theorem tw_369 : Cond.methodLink "StageMachine$Painter" 92 ⟨"StageMachine$Painter", "edgeAt", "(IJI)I"⟩ ∈ gTs := tw_b (List.mem_of_getElem? (i := 129) rfl) rfl
theorem tw_370 : Cond.static ⟨"StageMachine$Painter", "edgeAt", "(IJI)I"⟩ ∈ gTs := tw_b (List.mem_of_getElem? (i := 130) rfl) rfl
theorem tw_371 : Cond.code ⟨"StageMachine$Painter", "edgeAt", "(IJI)I"⟩ prog_5_method_8_code 4 (some .int) ∈ gTs := tw_b (List.mem_of_getElem? (i := 131) rfl) rfl
theorem tw_372 : Cond.constantLong "StageMachine$Painter" 109 (32768 : Int64) ∈ gTs := tw_b (List.mem_of_getElem? (i := 132) rfl) rfl
theorem tw_373 : Cond.methodLink "StageMachine$Painter" 96 ⟨"StageMachine$Pages", "startOfRow", "(I)I"⟩ ∈ gTs := tw_b (List.mem_of_getElem? (i := 133) rfl) rfl
theorem tw_374 : Cond.instanceMethod ⟨"StageMachine$Pages", "startOfRow", "(I)I"⟩ ∈ gTs := tw_b (List.mem_of_getElem? (i := 134) rfl) rfl
theorem tw_375 : Cond.selects "StageMachine$Pages" ⟨"StageMachine$Pages", "startOfRow", "(I)I"⟩ ⟨"StageMachine$Pages", "startOfRow", "(I)I"⟩ ∈ gTs := tw_b (List.mem_of_getElem? (i := 135) rfl) rfl
theorem tw_376 : Cond.code ⟨"StageMachine$Pages", "startOfRow", "(I)I"⟩ prog_4_method_6_code 2 (some .int) ∈ gTs := tw_b (List.mem_of_getElem? (i := 136) rfl) rfl
theorem tw_377 : Cond.methodLink "StageMachine$Painter" 103 ⟨"java/util/Arrays", "fill", "([BIIB)V"⟩ ∈ gTs := tw_b (List.mem_of_getElem? (i := 137) rfl) rfl
theorem tw_378 : Cond.methodLink "StageMachine$Painter" 57 ⟨"StageMachine$Painter", "drawGroup", "(IIIIII)V"⟩ ∈ gTs := tw_b (List.mem_of_getElem? (i := 138) rfl) rfl
theorem tw_380 : Cond.instanceMethod ⟨"StageMachine$Painter", "drawGroup", "(IIIIII)V"⟩ ∈ gTs := tw_b (List.mem_of_getElem? (i := 140) rfl) rfl
theorem tw_381 : Cond.code ⟨"StageMachine$Painter", "drawGroup", "(IIIIII)V"⟩ prog_5_method_4_code 17 none ∈ gTs := tw_b (List.mem_of_getElem? (i := 141) rfl) rfl
theorem tw_382 : Cond.methodLink "StageMachine$Painter" 65 ⟨"StageMachine$Bytes", "readPair", "(I)I"⟩ ∈ gTs := tw_b (List.mem_of_getElem? (i := 142) rfl) rfl
theorem tw_383 : Cond.constant "StageMachine$Painter" 68 (32768 : Int32) ∈ gTs := tw_b (List.mem_of_getElem? (i := 143) rfl) rfl
theorem tw_384 : Cond.methodLink "StageMachine$Painter" 69 ⟨"StageMachine$Painter", "drawShape", "(IIIIII)V"⟩ ∈ gTs := tw_b (List.mem_of_getElem? (i := 144) rfl) rfl
theorem tw_385 : Cond.methodLink "StageMachineLaw" 41 ⟨"StageMachine", "channel", "(II)I"⟩ ∈ gTs := tw_b (List.mem_of_getElem? (i := 145) rfl) rfl
theorem tw_386 : Cond.instanceMethod ⟨"StageMachine", "channel", "(II)I"⟩ ∈ gTs := tw_b (List.mem_of_getElem? (i := 146) rfl) rfl
theorem tw_387 : Cond.selects "StageMachine" ⟨"StageMachine", "channel", "(II)I"⟩ ⟨"StageMachine", "channel", "(II)I"⟩ ∈ gTs := tw_b (List.mem_of_getElem? (i := 147) rfl) rfl
theorem tw_388 : Cond.code ⟨"StageMachine", "channel", "(II)I"⟩ prog_1_method_8_code 4 (some .int) ∈ gTs := tw_b (List.mem_of_getElem? (i := 148) rfl) rfl
theorem tw_389 : Cond.methodLink "StageMachineLaw" 45 ⟨"StageMachine", "pixel", "(III)I"⟩ ∈ gTs := tw_b (List.mem_of_getElem? (i := 149) rfl) rfl
theorem tw_390 : Cond.instanceMethod ⟨"StageMachine", "pixel", "(III)I"⟩ ∈ gTs := tw_b (List.mem_of_getElem? (i := 150) rfl) rfl
theorem tw_391 : Cond.selects "StageMachine" ⟨"StageMachine", "pixel", "(III)I"⟩ ⟨"StageMachine", "pixel", "(III)I"⟩ ∈ gTs := tw_b (List.mem_of_getElem? (i := 151) rfl) rfl
theorem tw_392 : Cond.code ⟨"StageMachine", "pixel", "(III)I"⟩ prog_1_method_9_code 4 (some .int) ∈ gTs := tw_b (List.mem_of_getElem? (i := 152) rfl) rfl
theorem tw_393 : Cond.methodLink "StageMachine" 91 ⟨"StageMachine$Pages", "colourAt", "(III)I"⟩ ∈ gTs := tw_b (List.mem_of_getElem? (i := 153) rfl) rfl
theorem tw_394 : Cond.instanceMethod ⟨"StageMachine$Pages", "colourAt", "(III)I"⟩ ∈ gTs := tw_b (List.mem_of_getElem? (i := 154) rfl) rfl
theorem tw_395 : Cond.selects "StageMachine$Pages" ⟨"StageMachine$Pages", "colourAt", "(III)I"⟩ ⟨"StageMachine$Pages", "colourAt", "(III)I"⟩ ∈ gTs := tw_b (List.mem_of_getElem? (i := 155) rfl) rfl
theorem tw_396 : Cond.code ⟨"StageMachine$Pages", "colourAt", "(III)I"⟩ prog_4_method_3_code 4 (some .int) ∈ gTs := tw_b (List.mem_of_getElem? (i := 156) rfl) rfl
theorem tw_397 : Cond.methodLink "StageMachineLaw" 50 ⟨"StageMachine", "about", "(I)I"⟩ ∈ gTs := tw_b (List.mem_of_getElem? (i := 157) rfl) rfl
theorem tw_398 : Cond.instanceMethod ⟨"StageMachine", "about", "(I)I"⟩ ∈ gTs := tw_b (List.mem_of_getElem? (i := 158) rfl) rfl
theorem tw_399 : Cond.selects "StageMachine" ⟨"StageMachine", "about", "(I)I"⟩ ⟨"StageMachine", "about", "(I)I"⟩ ∈ gTs := tw_b (List.mem_of_getElem? (i := 159) rfl) rfl
theorem tw_400 : Cond.code ⟨"StageMachine", "about", "(I)I"⟩ prog_1_method_10_code 2 (some .int) ∈ gTs := tw_b (List.mem_of_getElem? (i := 160) rfl) rfl
theorem tw_401 : Cond.classLink "StageMachineLaw" 10 "StageMachineModel" ∈ gTs := tw_b (List.mem_of_getElem? (i := 161) rfl) rfl
theorem tw_402 : Cond.instantiable "StageMachineModel" 33 ∈ gTs := tw_b (List.mem_of_getElem? (i := 162) rfl) rfl
theorem tw_403 : Cond.methodLink "StageMachineLaw" 12 ⟨"StageMachineModel", "<init>", "()V"⟩ ∈ gTs := tw_b (List.mem_of_getElem? (i := 163) rfl) rfl
theorem tw_404 : Cond.instanceMethod ⟨"StageMachineModel", "<init>", "()V"⟩ ∈ gTs := tw_b (List.mem_of_getElem? (i := 164) rfl) rfl
theorem tw_405 : Cond.code ⟨"StageMachineModel", "<init>", "()V"⟩ prog_8_method_1_code 2 none ∈ gTs := tw_b (List.mem_of_getElem? (i := 165) rfl) rfl
theorem tw_406 : Cond.methodLink "StageMachineModel" 1 ⟨"java/lang/Object", "<init>", "()V"⟩ ∈ gTs := tw_b (List.mem_of_getElem? (i := 166) rfl) rfl
theorem tw_407 : Cond.fieldLink "StageMachineModel" 7 "StageMachineModel" "program" "[I" ∈ gTs := tw_b (List.mem_of_getElem? (i := 167) rfl) rfl
theorem tw_408 : Cond.fieldLink "StageMachineModel" 13 "StageMachineModel" "shapes" "[I" ∈ gTs := tw_b (List.mem_of_getElem? (i := 168) rfl) rfl
theorem tw_409 : Cond.fieldLink "StageMachineModel" 16 "StageMachineModel" "variable" "[I" ∈ gTs := tw_b (List.mem_of_getElem? (i := 169) rfl) rfl
theorem tw_410 : Cond.fieldLink "StageMachineModel" 19 "StageMachineModel" "pixels" "[B" ∈ gTs := tw_b (List.mem_of_getElem? (i := 170) rfl) rfl
theorem tw_411 : Cond.fieldLink "StageMachineModel" 91 "StageMachineModel" "working" "I" ∈ gTs := tw_b (List.mem_of_getElem? (i := 171) rfl) rfl
theorem tw_412 : Cond.fieldLink "StageMachineModel" 88 "StageMachineModel" "shown" "I" ∈ gTs := tw_b (List.mem_of_getElem? (i := 172) rfl) rfl
theorem tw_413 : Cond.fieldLink "StageMachineModel" 23 "StageMachineModel" "address" "[I" ∈ gTs := tw_b (List.mem_of_getElem? (i := 173) rfl) rfl
theorem tw_414 : Cond.fieldLink "StageMachineModel" 26 "StageMachineModel" "many" "[I" ∈ gTs := tw_b (List.mem_of_getElem? (i := 174) rfl) rfl
theorem tw_415 : Cond.fieldLink "StageMachineModel" 29 "StageMachineModel" "faults" "[I" ∈ gTs := tw_b (List.mem_of_getElem? (i := 175) rfl) rfl
theorem tw_416 : Cond.fieldLink "StageMachineModel" 32 "StageMachineModel" "asked" "[I" ∈ gTs := tw_b (List.mem_of_getElem? (i := 176) rfl) rfl
theorem tw_417 : Cond.fieldLink "StageMachineModel" 35 "StageMachineModel" "askedPause" "[I" ∈ gTs := tw_b (List.mem_of_getElem? (i := 177) rfl) rfl
theorem tw_418 : Cond.fieldLink "StageMachineModel" 38 "StageMachineModel" "paused" "[Z" ∈ gTs := tw_b (List.mem_of_getElem? (i := 178) rfl) rfl
theorem tw_419 : Cond.fieldLink "StageMachineModel" 42 "StageMachineModel" "pile" "[I" ∈ gTs := tw_b (List.mem_of_getElem? (i := 179) rfl) rfl
theorem tw_420 : Cond.fieldLink "StageMachineModel" 159 "StageMachineModel" "frames" "I" ∈ gTs := tw_b (List.mem_of_getElem? (i := 180) rfl) rfl
theorem tw_421 : Cond.fieldLink "StageMachineModel" 123 "StageMachineModel" "done" "I" ∈ gTs := tw_b (List.mem_of_getElem? (i := 181) rfl) rfl
theorem tw_422 : Cond.fieldLink "StageMachineModel" 162 "StageMachineModel" "rows" "I" ∈ gTs := tw_b (List.mem_of_getElem? (i := 182) rfl) rfl
theorem tw_423 : Cond.fieldLink "StageMachineModel" 165 "StageMachineModel" "begun" "I" ∈ gTs := tw_b (List.mem_of_getElem? (i := 183) rfl) rfl
theorem tw_424 : Cond.fieldLink "StageMachineModel" 110 "StageMachineModel" "who" "I" ∈ gTs := tw_b (List.mem_of_getElem? (i := 184) rfl) rfl
theorem tw_425 : Cond.fieldLink "StageMachineModel" 77 "StageMachineModel" "at" "I" ∈ gTs := tw_b (List.mem_of_getElem? (i := 185) rfl) rfl
theorem tw_426 : Cond.fieldLink "StageMachineModel" 94 "StageMachineModel" "fault" "I" ∈ gTs := tw_b (List.mem_of_getElem? (i := 186) rfl) rfl
theorem tw_427 : Cond.fieldLink "StageMachineModel" 97 "StageMachineModel" "on" "Z" ∈ gTs := tw_b (List.mem_of_getElem? (i := 187) rfl) rfl
theorem tw_428 : Cond.fieldLink "StageMachineModel" 190 "StageMachineModel" "drawn" "I" ∈ gTs := tw_b (List.mem_of_getElem? (i := 188) rfl) rfl
theorem tw_429 : Cond.fieldLink "StageMachineModel" 178 "StageMachineModel" "zoom" "I" ∈ gTs := tw_b (List.mem_of_getElem? (i := 189) rfl) rfl
theorem tw_430 : Cond.fieldLink "StageMachineModel" 187 "StageMachineModel" "parts" "I" ∈ gTs := tw_b (List.mem_of_getElem? (i := 190) rfl) rfl
theorem tw_431 : Cond.fieldLink "StageMachineModel" 45 "StageMachineModel" "partAt" "[I" ∈ gTs := tw_b (List.mem_of_getElem? (i := 191) rfl) rfl
theorem tw_432 : Cond.fieldLink "StageMachineModel" 48 "StageMachineModel" "partX" "[I" ∈ gTs := tw_b (List.mem_of_getElem? (i := 192) rfl) rfl
theorem tw_433 : Cond.fieldLink "StageMachineModel" 51 "StageMachineModel" "partY" "[I" ∈ gTs := tw_b (List.mem_of_getElem? (i := 193) rfl) rfl
theorem tw_434 : Cond.fieldLink "StageMachineModel" 54 "StageMachineModel" "partColour" "[I" ∈ gTs := tw_b (List.mem_of_getElem? (i := 194) rfl) rfl
theorem tw_435 : Cond.fieldLink "StageMachineModel" 57 "StageMachineModel" "partWithin" "[I" ∈ gTs := tw_b (List.mem_of_getElem? (i := 195) rfl) rfl
theorem tw_436 : Cond.fieldLink "StageMachineModel" 175 "StageMachineModel" "reading" "I" ∈ gTs := tw_b (List.mem_of_getElem? (i := 196) rfl) rfl
theorem tw_437 : Cond.fieldLink "StageMachineModel" 60 "StageMachineModel" "right" "[I" ∈ gTs := tw_b (List.mem_of_getElem? (i := 197) rfl) rfl
theorem tw_438 : Cond.fieldLink "StageMachineModel" 63 "StageMachineModel" "left" "[I" ∈ gTs := tw_b (List.mem_of_getElem? (i := 198) rfl) rfl
theorem tw_439 : Cond.fieldLink "StageMachineModel" 66 "StageMachineModel" "high" "[I" ∈ gTs := tw_b (List.mem_of_getElem? (i := 199) rfl) rfl
theorem tw_440 : Cond.laysFinal "StageMachineModel" "StageMachineModel" "program" "[I" ∈ gTs := tw_b (List.mem_of_getElem? (i := 200) rfl) rfl
theorem tw_442 : Cond.laysFinal "StageMachineModel" "StageMachineModel" "shapes" "[I" ∈ gTs := tw_b (List.mem_of_getElem? (i := 202) rfl) rfl
theorem tw_444 : Cond.laysFinal "StageMachineModel" "StageMachineModel" "variable" "[I" ∈ gTs := tw_b (List.mem_of_getElem? (i := 204) rfl) rfl
theorem tw_446 : Cond.laysFinal "StageMachineModel" "StageMachineModel" "pixels" "[B" ∈ gTs := tw_b (List.mem_of_getElem? (i := 206) rfl) rfl
theorem tw_448 : Cond.lays "StageMachineModel" "StageMachineModel" "working" "I" ∈ gTs := tw_b (List.mem_of_getElem? (i := 208) rfl) rfl
theorem tw_450 : Cond.lays "StageMachineModel" "StageMachineModel" "shown" "I" ∈ gTs := tw_b (List.mem_of_getElem? (i := 210) rfl) rfl
theorem tw_452 : Cond.laysFinal "StageMachineModel" "StageMachineModel" "address" "[I" ∈ gTs := tw_b (List.mem_of_getElem? (i := 212) rfl) rfl
theorem tw_454 : Cond.laysFinal "StageMachineModel" "StageMachineModel" "many" "[I" ∈ gTs := tw_b (List.mem_of_getElem? (i := 214) rfl) rfl
theorem tw_456 : Cond.laysFinal "StageMachineModel" "StageMachineModel" "faults" "[I" ∈ gTs := tw_b (List.mem_of_getElem? (i := 216) rfl) rfl
theorem tw_458 : Cond.laysFinal "StageMachineModel" "StageMachineModel" "asked" "[I" ∈ gTs := tw_b (List.mem_of_getElem? (i := 218) rfl) rfl
theorem tw_460 : Cond.laysFinal "StageMachineModel" "StageMachineModel" "askedPause" "[I" ∈ gTs := tw_b (List.mem_of_getElem? (i := 220) rfl) rfl
theorem tw_462 : Cond.laysFinal "StageMachineModel" "StageMachineModel" "paused" "[Z" ∈ gTs := tw_b (List.mem_of_getElem? (i := 222) rfl) rfl
theorem tw_464 : Cond.laysFinal "StageMachineModel" "StageMachineModel" "pile" "[I" ∈ gTs := tw_b (List.mem_of_getElem? (i := 224) rfl) rfl
theorem tw_466 : Cond.lays "StageMachineModel" "StageMachineModel" "frames" "I" ∈ gTs := tw_b (List.mem_of_getElem? (i := 226) rfl) rfl
theorem tw_468 : Cond.lays "StageMachineModel" "StageMachineModel" "done" "I" ∈ gTs := tw_b (List.mem_of_getElem? (i := 228) rfl) rfl
theorem tw_470 : Cond.lays "StageMachineModel" "StageMachineModel" "rows" "I" ∈ gTs := tw_b (List.mem_of_getElem? (i := 230) rfl) rfl
theorem tw_472 : Cond.lays "StageMachineModel" "StageMachineModel" "begun" "I" ∈ gTs := tw_b (List.mem_of_getElem? (i := 232) rfl) rfl
theorem tw_474 : Cond.lays "StageMachineModel" "StageMachineModel" "who" "I" ∈ gTs := tw_b (List.mem_of_getElem? (i := 234) rfl) rfl
theorem tw_476 : Cond.lays "StageMachineModel" "StageMachineModel" "at" "I" ∈ gTs := tw_b (List.mem_of_getElem? (i := 236) rfl) rfl
theorem tw_478 : Cond.lays "StageMachineModel" "StageMachineModel" "fault" "I" ∈ gTs := tw_b (List.mem_of_getElem? (i := 238) rfl) rfl
theorem tw_480 : Cond.lays "StageMachineModel" "StageMachineModel" "on" "Z" ∈ gTs := tw_c (List.mem_of_getElem? (i := 0) rfl) rfl
theorem tw_482 : Cond.lays "StageMachineModel" "StageMachineModel" "drawn" "I" ∈ gTs := tw_c (List.mem_of_getElem? (i := 2) rfl) rfl
theorem tw_484 : Cond.lays "StageMachineModel" "StageMachineModel" "zoom" "I" ∈ gTs := tw_c (List.mem_of_getElem? (i := 4) rfl) rfl
theorem tw_486 : Cond.lays "StageMachineModel" "StageMachineModel" "parts" "I" ∈ gTs := tw_c (List.mem_of_getElem? (i := 6) rfl) rfl
theorem tw_488 : Cond.laysFinal "StageMachineModel" "StageMachineModel" "partAt" "[I" ∈ gTs := tw_c (List.mem_of_getElem? (i := 8) rfl) rfl
theorem tw_490 : Cond.laysFinal "StageMachineModel" "StageMachineModel" "partX" "[I" ∈ gTs := tw_c (List.mem_of_getElem? (i := 10) rfl) rfl
theorem tw_492 : Cond.laysFinal "StageMachineModel" "StageMachineModel" "partY" "[I" ∈ gTs := tw_c (List.mem_of_getElem? (i := 12) rfl) rfl
theorem tw_494 : Cond.laysFinal "StageMachineModel" "StageMachineModel" "partColour" "[I" ∈ gTs := tw_c (List.mem_of_getElem? (i := 14) rfl) rfl
theorem tw_496 : Cond.laysFinal "StageMachineModel" "StageMachineModel" "partWithin" "[I" ∈ gTs := tw_c (List.mem_of_getElem? (i := 16) rfl) rfl
theorem tw_498 : Cond.lays "StageMachineModel" "StageMachineModel" "reading" "I" ∈ gTs := tw_c (List.mem_of_getElem? (i := 18) rfl) rfl
theorem tw_500 : Cond.laysFinal "StageMachineModel" "StageMachineModel" "right" "[I" ∈ gTs := tw_c (List.mem_of_getElem? (i := 20) rfl) rfl
theorem tw_502 : Cond.laysFinal "StageMachineModel" "StageMachineModel" "left" "[I" ∈ gTs := tw_c (List.mem_of_getElem? (i := 22) rfl) rfl
theorem tw_504 : Cond.laysFinal "StageMachineModel" "StageMachineModel" "high" "[I" ∈ gTs := tw_c (List.mem_of_getElem? (i := 24) rfl) rfl
theorem tw_506 : Cond.superclass "StageMachineModel" "java/lang/Object" ∈ gTs := tw_c (List.mem_of_getElem? (i := 26) rfl) rfl
theorem tw_507 : Cond.arrayClass .boolean ∈ gTs := tw_c (List.mem_of_getElem? (i := 27) rfl) rfl
theorem tw_508 : Cond.methodLink "StageMachineLaw" 17 ⟨"StageMachineModel", "put", "(III)Z"⟩ ∈ gTs := tw_c (List.mem_of_getElem? (i := 28) rfl) rfl
theorem tw_509 : Cond.instanceMethod ⟨"StageMachineModel", "put", "(III)Z"⟩ ∈ gTs := tw_c (List.mem_of_getElem? (i := 29) rfl) rfl
theorem tw_510 : Cond.selects "StageMachineModel" ⟨"StageMachineModel", "put", "(III)Z"⟩ ⟨"StageMachineModel", "put", "(III)Z"⟩ ∈ gTs := tw_c (List.mem_of_getElem? (i := 30) rfl) rfl
theorem tw_511 : Cond.code ⟨"StageMachineModel", "put", "(III)Z"⟩ prog_8_method_5_code 6 (some .boolean) ∈ gTs := tw_c (List.mem_of_getElem? (i := 31) rfl) rfl
theorem tw_512 : Cond.methodLink "StageMachineModel" 69 ⟨"StageMachineModel", "in", "(III)Z"⟩ ∈ gTs := tw_c (List.mem_of_getElem? (i := 32) rfl) rfl
theorem tw_513 : Cond.static ⟨"StageMachineModel", "in", "(III)Z"⟩ ∈ gTs := tw_c (List.mem_of_getElem? (i := 33) rfl) rfl
theorem tw_514 : Cond.code ⟨"StageMachineModel", "in", "(III)Z"⟩ prog_8_method_2_code 3 (some .boolean) ∈ gTs := tw_c (List.mem_of_getElem? (i := 34) rfl) rfl
theorem tw_515 : Cond.methodLink "StageMachineLaw" 22 ⟨"StageMachineModel", "byteAt", "(II)I"⟩ ∈ gTs := tw_c (List.mem_of_getElem? (i := 35) rfl) rfl
theorem tw_516 : Cond.instanceMethod ⟨"StageMachineModel", "byteAt", "(II)I"⟩ ∈ gTs := tw_c (List.mem_of_getElem? (i := 36) rfl) rfl
theorem tw_517 : Cond.selects "StageMachineModel" ⟨"StageMachineModel", "byteAt", "(II)I"⟩ ⟨"StageMachineModel", "byteAt", "(II)I"⟩ ∈ gTs := tw_c (List.mem_of_getElem? (i := 37) rfl) rfl
theorem tw_518 : Cond.code ⟨"StageMachineModel", "byteAt", "(II)I"⟩ prog_8_method_6_code 3 (some .int) ∈ gTs := tw_c (List.mem_of_getElem? (i := 38) rfl) rfl
theorem tw_519 : Cond.methodLink "StageMachineLaw" 27 ⟨"StageMachineModel", "set", "(II)Z"⟩ ∈ gTs := tw_c (List.mem_of_getElem? (i := 39) rfl) rfl
theorem tw_520 : Cond.instanceMethod ⟨"StageMachineModel", "set", "(II)Z"⟩ ∈ gTs := tw_c (List.mem_of_getElem? (i := 40) rfl) rfl
theorem tw_521 : Cond.selects "StageMachineModel" ⟨"StageMachineModel", "set", "(II)Z"⟩ ⟨"StageMachineModel", "set", "(II)Z"⟩ ∈ gTs := tw_c (List.mem_of_getElem? (i := 41) rfl) rfl
theorem tw_522 : Cond.code ⟨"StageMachineModel", "set", "(II)Z"⟩ prog_8_method_7_code 3 (some .boolean) ∈ gTs := tw_c (List.mem_of_getElem? (i := 42) rfl) rfl
theorem tw_523 : Cond.methodLink "StageMachineModel" 73 ⟨"StageMachineModel", "wrapped", "(I)I"⟩ ∈ gTs := tw_c (List.mem_of_getElem? (i := 43) rfl) rfl
theorem tw_524 : Cond.static ⟨"StageMachineModel", "wrapped", "(I)I"⟩ ∈ gTs := tw_c (List.mem_of_getElem? (i := 44) rfl) rfl
theorem tw_525 : Cond.code ⟨"StageMachineModel", "wrapped", "(I)I"⟩ prog_8_method_4_code 1 (some .int) ∈ gTs := tw_c (List.mem_of_getElem? (i := 45) rfl) rfl
theorem tw_526 : Cond.methodLink "StageMachineLaw" 32 ⟨"StageMachineModel", "get", "(I)I"⟩ ∈ gTs := tw_c (List.mem_of_getElem? (i := 46) rfl) rfl
theorem tw_527 : Cond.instanceMethod ⟨"StageMachineModel", "get", "(I)I"⟩ ∈ gTs := tw_c (List.mem_of_getElem? (i := 47) rfl) rfl
theorem tw_528 : Cond.selects "StageMachineModel" ⟨"StageMachineModel", "get", "(I)I"⟩ ⟨"StageMachineModel", "get", "(I)I"⟩ ∈ gTs := tw_c (List.mem_of_getElem? (i := 48) rfl) rfl
theorem tw_529 : Cond.code ⟨"StageMachineModel", "get", "(I)I"⟩ prog_8_method_8_code 2 (some .int) ∈ gTs := tw_c (List.mem_of_getElem? (i := 49) rfl) rfl
theorem tw_530 : Cond.methodLink "StageMachineLaw" 36 ⟨"StageMachineModel", "ask", "(II)Z"⟩ ∈ gTs := tw_c (List.mem_of_getElem? (i := 50) rfl) rfl
theorem tw_531 : Cond.instanceMethod ⟨"StageMachineModel", "ask", "(II)Z"⟩ ∈ gTs := tw_c (List.mem_of_getElem? (i := 51) rfl) rfl
theorem tw_532 : Cond.selects "StageMachineModel" ⟨"StageMachineModel", "ask", "(II)Z"⟩ ⟨"StageMachineModel", "ask", "(II)Z"⟩ ∈ gTs := tw_c (List.mem_of_getElem? (i := 52) rfl) rfl
theorem tw_533 : Cond.code ⟨"StageMachineModel", "ask", "(II)Z"⟩ prog_8_method_9_code 3 (some .boolean) ∈ gTs := tw_c (List.mem_of_getElem? (i := 53) rfl) rfl
theorem tw_534 : Cond.methodLink "StageMachineLaw" 40 ⟨"StageMachineModel", "frame", "(I)I"⟩ ∈ gTs := tw_c (List.mem_of_getElem? (i := 54) rfl) rfl
theorem tw_535 : Cond.instanceMethod ⟨"StageMachineModel", "frame", "(I)I"⟩ ∈ gTs := tw_c (List.mem_of_getElem? (i := 55) rfl) rfl
theorem tw_536 : Cond.selects "StageMachineModel" ⟨"StageMachineModel", "frame", "(I)I"⟩ ⟨"StageMachineModel", "frame", "(I)I"⟩ ∈ gTs := tw_c (List.mem_of_getElem? (i := 56) rfl) rfl
theorem tw_537 : Cond.code ⟨"StageMachineModel", "frame", "(I)I"⟩ prog_8_method_30_code 4 (some .int) ∈ gTs := tw_c (List.mem_of_getElem? (i := 57) rfl) rfl
theorem tw_538 : Cond.methodLink "StageMachineModel" 168 ⟨"StageMachineModel", "settle", "()V"⟩ ∈ gTs := tw_c (List.mem_of_getElem? (i := 58) rfl) rfl
theorem tw_540 : Cond.instanceMethod ⟨"StageMachineModel", "settle", "()V"⟩ ∈ gTs := tw_c (List.mem_of_getElem? (i := 60) rfl) rfl
theorem tw_541 : Cond.code ⟨"StageMachineModel", "settle", "()V"⟩ prog_8_method_29_code 2 none ∈ gTs := tw_c (List.mem_of_getElem? (i := 61) rfl) rfl
theorem tw_542 : Cond.methodLink "StageMachineModel" 171 ⟨"StageMachineModel", "turn", "(II)V"⟩ ∈ gTs := tw_c (List.mem_of_getElem? (i := 62) rfl) rfl
theorem tw_544 : Cond.instanceMethod ⟨"StageMachineModel", "turn", "(II)V"⟩ ∈ gTs := tw_c (List.mem_of_getElem? (i := 64) rfl) rfl
theorem tw_545 : Cond.code ⟨"StageMachineModel", "turn", "(II)V"⟩ prog_8_method_28_code 4 none ∈ gTs := tw_c (List.mem_of_getElem? (i := 65) rfl) rfl
theorem tw_546 : Cond.methodLink "StageMachineModel" 156 ⟨"StageMachineModel", "instruct", "()V"⟩ ∈ gTs := tw_c (List.mem_of_getElem? (i := 66) rfl) rfl
theorem tw_548 : Cond.instanceMethod ⟨"StageMachineModel", "instruct", "()V"⟩ ∈ gTs := tw_c (List.mem_of_getElem? (i := 68) rfl) rfl
theorem tw_549 : Cond.code ⟨"StageMachineModel", "instruct", "()V"⟩ prog_8_method_27_code 2 none ∈ gTs := tw_c (List.mem_of_getElem? (i := 69) rfl) rfl
theorem tw_550 : Cond.methodLink "StageMachineModel" 81 ⟨"StageMachineModel", "next", "()I"⟩ ∈ gTs := tw_c (List.mem_of_getElem? (i := 70) rfl) rfl
theorem tw_552 : Cond.instanceMethod ⟨"StageMachineModel", "next", "()I"⟩ ∈ gTs := tw_c (List.mem_of_getElem? (i := 72) rfl) rfl
theorem tw_553 : Cond.code ⟨"StageMachineModel", "next", "()I"⟩ prog_8_method_10_code 2 (some .int) ∈ gTs := tw_c (List.mem_of_getElem? (i := 73) rfl) rfl
theorem tw_554 : Cond.methodLink "StageMachineModel" 107 ⟨"StageMachineModel", "place", "()I"⟩ ∈ gTs := tw_c (List.mem_of_getElem? (i := 74) rfl) rfl
theorem tw_556 : Cond.instanceMethod ⟨"StageMachineModel", "place", "()I"⟩ ∈ gTs := tw_c (List.mem_of_getElem? (i := 76) rfl) rfl
theorem tw_557 : Cond.code ⟨"StageMachineModel", "place", "()I"⟩ prog_8_method_14_code 1 (some .int) ∈ gTs := tw_c (List.mem_of_getElem? (i := 77) rfl) rfl
theorem tw_558 : Cond.methodLink "StageMachineModel" 85 ⟨"StageMachineModel", "two", "()I"⟩ ∈ gTs := tw_c (List.mem_of_getElem? (i := 78) rfl) rfl
theorem tw_560 : Cond.instanceMethod ⟨"StageMachineModel", "two", "()I"⟩ ∈ gTs := tw_c (List.mem_of_getElem? (i := 80) rfl) rfl
theorem tw_561 : Cond.code ⟨"StageMachineModel", "two", "()I"⟩ prog_8_method_12_code 2 (some .int) ∈ gTs := tw_c (List.mem_of_getElem? (i := 81) rfl) rfl
theorem tw_562 : Cond.methodLink "StageMachineModel" 126 ⟨"StageMachineModel", "call", "()V"⟩ ∈ gTs := tw_c (List.mem_of_getElem? (i := 82) rfl) rfl
theorem tw_564 : Cond.instanceMethod ⟨"StageMachineModel", "call", "()V"⟩ ∈ gTs := tw_c (List.mem_of_getElem? (i := 84) rfl) rfl
theorem tw_565 : Cond.code ⟨"StageMachineModel", "call", "()V"⟩ prog_8_method_18_code 2 none ∈ gTs := tw_c (List.mem_of_getElem? (i := 85) rfl) rfl
theorem tw_566 : Cond.methodLink "StageMachineModel" 113 ⟨"StageMachineModel", "fails", "(I)V"⟩ ∈ gTs := tw_c (List.mem_of_getElem? (i := 86) rfl) rfl
theorem tw_568 : Cond.instanceMethod ⟨"StageMachineModel", "fails", "(I)V"⟩ ∈ gTs := tw_c (List.mem_of_getElem? (i := 88) rfl) rfl
theorem tw_569 : Cond.code ⟨"StageMachineModel", "fails", "(I)V"⟩ prog_8_method_16_code 2 none ∈ gTs := tw_c (List.mem_of_getElem? (i := 89) rfl) rfl
theorem tw_570 : Cond.methodLink "StageMachineModel" 129 ⟨"StageMachineModel", "back", "()V"⟩ ∈ gTs := tw_c (List.mem_of_getElem? (i := 90) rfl) rfl
theorem tw_572 : Cond.instanceMethod ⟨"StageMachineModel", "back", "()V"⟩ ∈ gTs := tw_c (List.mem_of_getElem? (i := 92) rfl) rfl
theorem tw_573 : Cond.code ⟨"StageMachineModel", "back", "()V"⟩ prog_8_method_19_code 1 none ∈ gTs := tw_c (List.mem_of_getElem? (i := 93) rfl) rfl
theorem tw_574 : Cond.methodLink "StageMachineModel" 132 ⟨"StageMachineModel", "loop", "()V"⟩ ∈ gTs := tw_c (List.mem_of_getElem? (i := 94) rfl) rfl
theorem tw_576 : Cond.instanceMethod ⟨"StageMachineModel", "loop", "()V"⟩ ∈ gTs := tw_c (List.mem_of_getElem? (i := 96) rfl) rfl
theorem tw_577 : Cond.code ⟨"StageMachineModel", "loop", "()V"⟩ prog_8_method_20_code 3 none ∈ gTs := tw_c (List.mem_of_getElem? (i := 97) rfl) rfl
theorem tw_578 : Cond.methodLink "StageMachineModel" 101 ⟨"StageMachineModel", "name", "()I"⟩ ∈ gTs := tw_c (List.mem_of_getElem? (i := 98) rfl) rfl
theorem tw_580 : Cond.instanceMethod ⟨"StageMachineModel", "name", "()I"⟩ ∈ gTs := tw_c (List.mem_of_getElem? (i := 100) rfl) rfl
theorem tw_581 : Cond.code ⟨"StageMachineModel", "name", "()I"⟩ prog_8_method_11_code 1 (some .int) ∈ gTs := tw_c (List.mem_of_getElem? (i := 101) rfl) rfl
theorem tw_582 : Cond.methodLink "StageMachineModel" 135 ⟨"StageMachineModel", "when", "()V"⟩ ∈ gTs := tw_c (List.mem_of_getElem? (i := 102) rfl) rfl
theorem tw_584 : Cond.instanceMethod ⟨"StageMachineModel", "when", "()V"⟩ ∈ gTs := tw_c (List.mem_of_getElem? (i := 104) rfl) rfl
theorem tw_585 : Cond.code ⟨"StageMachineModel", "when", "()V"⟩ prog_8_method_22_code 5 none ∈ gTs := tw_c (List.mem_of_getElem? (i := 105) rfl) rfl
theorem tw_586 : Cond.methodLink "StageMachineModel" 104 ⟨"StageMachineModel", "signed", "()I"⟩ ∈ gTs := tw_c (List.mem_of_getElem? (i := 106) rfl) rfl
theorem tw_588 : Cond.instanceMethod ⟨"StageMachineModel", "signed", "()I"⟩ ∈ gTs := tw_c (List.mem_of_getElem? (i := 108) rfl) rfl
theorem tw_589 : Cond.code ⟨"StageMachineModel", "signed", "()I"⟩ prog_8_method_13_code 1 (some .int) ∈ gTs := tw_c (List.mem_of_getElem? (i := 109) rfl) rfl
theorem tw_590 : Cond.methodLink "StageMachineModel" 117 ⟨"StageMachineModel", "compares", "(III)Z"⟩ ∈ gTs := tw_c (List.mem_of_getElem? (i := 110) rfl) rfl
theorem tw_591 : Cond.static ⟨"StageMachineModel", "compares", "(III)Z"⟩ ∈ gTs := tw_c (List.mem_of_getElem? (i := 111) rfl) rfl
theorem tw_592 : Cond.code ⟨"StageMachineModel", "compares", "(III)Z"⟩ prog_8_method_21_code 3 (some .boolean) ∈ gTs := tw_c (List.mem_of_getElem? (i := 112) rfl) rfl
theorem tw_593 : Cond.methodLink "StageMachineModel" 138 ⟨"StageMachineModel", "start", "()V"⟩ ∈ gTs := tw_c (List.mem_of_getElem? (i := 113) rfl) rfl
theorem tw_595 : Cond.instanceMethod ⟨"StageMachineModel", "start", "()V"⟩ ∈ gTs := tw_c (List.mem_of_getElem? (i := 115) rfl) rfl
theorem tw_596 : Cond.code ⟨"StageMachineModel", "start", "()V"⟩ prog_8_method_24_code 2 none ∈ gTs := tw_c (List.mem_of_getElem? (i := 116) rfl) rfl
theorem tw_597 : Cond.methodLink "StageMachineModel" 141 ⟨"StageMachineModel", "each", "()V"⟩ ∈ gTs := tw_c (List.mem_of_getElem? (i := 117) rfl) rfl
theorem tw_599 : Cond.instanceMethod ⟨"StageMachineModel", "each", "()V"⟩ ∈ gTs := tw_c (List.mem_of_getElem? (i := 119) rfl) rfl
theorem tw_600 : Cond.code ⟨"StageMachineModel", "each", "()V"⟩ prog_8_method_23_code 5 none ∈ gTs := tw_c (List.mem_of_getElem? (i := 120) rfl) rfl
theorem tw_601 : Cond.methodLink "StageMachineModel" 120 ⟨"StageMachineModel", "page", "()I"⟩ ∈ gTs := tw_c (List.mem_of_getElem? (i := 121) rfl) rfl
theorem tw_603 : Cond.instanceMethod ⟨"StageMachineModel", "page", "()I"⟩ ∈ gTs := tw_c (List.mem_of_getElem? (i := 123) rfl) rfl
theorem tw_604 : Cond.code ⟨"StageMachineModel", "page", "()I"⟩ prog_8_method_15_code 2 (some .int) ∈ gTs := tw_c (List.mem_of_getElem? (i := 124) rfl) rfl
theorem tw_605 : Cond.methodLink "StageMachineModel" 144 ⟨"StageMachineModel", "fill", "()V"⟩ ∈ gTs := tw_c (List.mem_of_getElem? (i := 125) rfl) rfl
theorem tw_607 : Cond.instanceMethod ⟨"StageMachineModel", "fill", "()V"⟩ ∈ gTs := tw_c (List.mem_of_getElem? (i := 127) rfl) rfl
theorem tw_608 : Cond.code ⟨"StageMachineModel", "fill", "()V"⟩ prog_8_method_25_code 4 none ∈ gTs := tw_c (List.mem_of_getElem? (i := 128) rfl) rfl
theorem tw_609 : Cond.methodLink "StageMachineModel" 147 ⟨"StageMachineModel", "copy", "()V"⟩ ∈ gTs := tw_c (List.mem_of_getElem? (i := 129) rfl) rfl
theorem tw_611 : Cond.instanceMethod ⟨"StageMachineModel", "copy", "()V"⟩ ∈ gTs := tw_c (List.mem_of_getElem? (i := 131) rfl) rfl
theorem tw_612 : Cond.code ⟨"StageMachineModel", "copy", "()V"⟩ prog_8_method_26_code 4 none ∈ gTs := tw_c (List.mem_of_getElem? (i := 132) rfl) rfl
theorem tw_613 : Cond.methodLink "StageMachineModel" 150 ⟨"StageMachineModel", "draw", "()V"⟩ ∈ gTs := tw_c (List.mem_of_getElem? (i := 133) rfl) rfl
theorem tw_615 : Cond.instanceMethod ⟨"StageMachineModel", "draw", "()V"⟩ ∈ gTs := tw_c (List.mem_of_getElem? (i := 135) rfl) rfl
theorem tw_616 : Cond.code ⟨"StageMachineModel", "draw", "()V"⟩ prog_8_method_34_code 5 none ∈ gTs := tw_c (List.mem_of_getElem? (i := 136) rfl) rfl
theorem tw_617 : Cond.methodLink "StageMachineModel" 193 ⟨"StageMachineModel", "lay", "(IIIII)V"⟩ ∈ gTs := tw_c (List.mem_of_getElem? (i := 137) rfl) rfl
theorem tw_619 : Cond.instanceMethod ⟨"StageMachineModel", "lay", "(IIIII)V"⟩ ∈ gTs := tw_c (List.mem_of_getElem? (i := 139) rfl) rfl
theorem tw_620 : Cond.code ⟨"StageMachineModel", "lay", "(IIIII)V"⟩ prog_8_method_33_code 6 none ∈ gTs := tw_c (List.mem_of_getElem? (i := 140) rfl) rfl
theorem tw_621 : Cond.methodLink "StageMachineModel" 197 ⟨"StageMachineModel", "begin", "(I)V"⟩ ∈ gTs := tw_c (List.mem_of_getElem? (i := 141) rfl) rfl
theorem tw_623 : Cond.instanceMethod ⟨"StageMachineModel", "begin", "(I)V"⟩ ∈ gTs := tw_c (List.mem_of_getElem? (i := 143) rfl) rfl
theorem tw_624 : Cond.code ⟨"StageMachineModel", "begin", "(I)V"⟩ prog_8_method_35_code 3 none ∈ gTs := tw_c (List.mem_of_getElem? (i := 144) rfl) rfl
theorem tw_625 : Cond.methodLink "StageMachineModel" 200 ⟨"StageMachineModel", "read", "()I"⟩ ∈ gTs := tw_c (List.mem_of_getElem? (i := 145) rfl) rfl
theorem tw_627 : Cond.instanceMethod ⟨"StageMachineModel", "read", "()I"⟩ ∈ gTs := tw_c (List.mem_of_getElem? (i := 147) rfl) rfl
theorem tw_628 : Cond.code ⟨"StageMachineModel", "read", "()I"⟩ prog_8_method_31_code 2 (some .int) ∈ gTs := tw_c (List.mem_of_getElem? (i := 148) rfl) rfl
theorem tw_629 : Cond.methodLink "StageMachineModel" 203 ⟨"StageMachineModel", "polygon", "(III)V"⟩ ∈ gTs := tw_c (List.mem_of_getElem? (i := 149) rfl) rfl
theorem tw_631 : Cond.instanceMethod ⟨"StageMachineModel", "polygon", "(III)V"⟩ ∈ gTs := tw_c (List.mem_of_getElem? (i := 151) rfl) rfl
theorem tw_632 : Cond.code ⟨"StageMachineModel", "polygon", "(III)V"⟩ prog_8_method_38_code 11 none ∈ gTs := tw_c (List.mem_of_getElem? (i := 152) rfl) rfl
theorem tw_633 : Cond.methodLink "StageMachineModel" 211 ⟨"StageMachineModel", "scaled", "(I)I"⟩ ∈ gTs := tw_c (List.mem_of_getElem? (i := 153) rfl) rfl
theorem tw_635 : Cond.instanceMethod ⟨"StageMachineModel", "scaled", "(I)I"⟩ ∈ gTs := tw_c (List.mem_of_getElem? (i := 155) rfl) rfl
theorem tw_636 : Cond.code ⟨"StageMachineModel", "scaled", "(I)I"⟩ prog_8_method_32_code 2 (some .int) ∈ gTs := tw_c (List.mem_of_getElem? (i := 156) rfl) rfl
theorem tw_637 : Cond.constantLong "StageMachineModel" 181 (64 : Int64) ∈ gTs := tw_c (List.mem_of_getElem? (i := 157) rfl) rfl
theorem tw_638 : Cond.methodLink "StageMachineModel" 183 ⟨"StageMachineModel", "div", "(JJ)J"⟩ ∈ gTs := tw_c (List.mem_of_getElem? (i := 158) rfl) rfl
theorem tw_639 : Cond.static ⟨"StageMachineModel", "div", "(JJ)J"⟩ ∈ gTs := tw_c (List.mem_of_getElem? (i := 159) rfl) rfl
theorem tw_640 : Cond.code ⟨"StageMachineModel", "div", "(JJ)J"⟩ prog_8_method_3_code 6 (some .long) ∈ gTs := tw_c (List.mem_of_getElem? (i := 160) rfl) rfl
theorem tw_641 : Cond.constantLong "StageMachineModel" 217 (2 : Int64) ∈ gTs := tw_c (List.mem_of_getElem? (i := 161) rfl) rfl
theorem tw_642 : Cond.methodLink "StageMachineModel" 219 ⟨"StageMachineModel", "line", "(III)V"⟩ ∈ gTs := tw_c (List.mem_of_getElem? (i := 162) rfl) rfl
theorem tw_644 : Cond.instanceMethod ⟨"StageMachineModel", "line", "(III)V"⟩ ∈ gTs := tw_c (List.mem_of_getElem? (i := 164) rfl) rfl
theorem tw_645 : Cond.code ⟨"StageMachineModel", "line", "(III)V"⟩ prog_8_method_40_code 12 none ∈ gTs := tw_c (List.mem_of_getElem? (i := 165) rfl) rfl
theorem tw_646 : Cond.methodLink "StageMachineModel" 226 ⟨"StageMachineModel", "side", "(IIII)J"⟩ ∈ gTs := tw_c (List.mem_of_getElem? (i := 166) rfl) rfl
theorem tw_647 : Cond.static ⟨"StageMachineModel", "side", "(IIII)J"⟩ ∈ gTs := tw_c (List.mem_of_getElem? (i := 167) rfl) rfl
theorem tw_648 : Cond.code ⟨"StageMachineModel", "side", "(IIII)J"⟩ prog_8_method_39_code 6 (some .long) ∈ gTs := tw_c (List.mem_of_getElem? (i := 168) rfl) rfl
theorem tw_649 : Cond.constantLong "StageMachineModel" 222 (65536 : Int64) ∈ gTs := tw_c (List.mem_of_getElem? (i := 169) rfl) rfl
theorem tw_650 : Cond.constantLong "StageMachineModel" 224 (32768 : Int64) ∈ gTs := tw_c (List.mem_of_getElem? (i := 170) rfl) rfl
theorem tw_651 : Cond.methodLink "StageMachineModel" 207 ⟨"StageMachineModel", "group", "(IIII)V"⟩ ∈ gTs := tw_c (List.mem_of_getElem? (i := 171) rfl) rfl
theorem tw_653 : Cond.instanceMethod ⟨"StageMachineModel", "group", "(IIII)V"⟩ ∈ gTs := tw_c (List.mem_of_getElem? (i := 173) rfl) rfl
theorem tw_654 : Cond.code ⟨"StageMachineModel", "group", "(IIII)V"⟩ prog_8_method_36_code 15 none ∈ gTs := tw_c (List.mem_of_getElem? (i := 174) rfl) rfl
theorem tw_655 : Cond.methodLink "StageMachineModel" 214 ⟨"StageMachineModel", "swap", "(II)V"⟩ ∈ gTs := tw_c (List.mem_of_getElem? (i := 175) rfl) rfl
theorem tw_657 : Cond.instanceMethod ⟨"StageMachineModel", "swap", "(II)V"⟩ ∈ gTs := tw_c (List.mem_of_getElem? (i := 177) rfl) rfl
theorem tw_658 : Cond.code ⟨"StageMachineModel", "swap", "(II)V"⟩ prog_8_method_37_code 7 none ∈ gTs := tw_c (List.mem_of_getElem? (i := 178) rfl) rfl
theorem tw_659 : Cond.methodLink "StageMachineModel" 153 ⟨"StageMachineModel", "reckon", "(I)V"⟩ ∈ gTs := tw_c (List.mem_of_getElem? (i := 179) rfl) rfl
theorem tw_661 : Cond.instanceMethod ⟨"StageMachineModel", "reckon", "(I)V"⟩ ∈ gTs := tw_c (List.mem_of_getElem? (i := 181) rfl) rfl
theorem tw_662 : Cond.code ⟨"StageMachineModel", "reckon", "(I)V"⟩ prog_8_method_17_code 5 none ∈ gTs := tw_c (List.mem_of_getElem? (i := 182) rfl) rfl
theorem tw_663 : Cond.methodLink "StageMachineLaw" 44 ⟨"StageMachineModel", "channel", "(II)I"⟩ ∈ gTs := tw_c (List.mem_of_getElem? (i := 183) rfl) rfl
theorem tw_664 : Cond.instanceMethod ⟨"StageMachineModel", "channel", "(II)I"⟩ ∈ gTs := tw_c (List.mem_of_getElem? (i := 184) rfl) rfl
theorem tw_665 : Cond.selects "StageMachineModel" ⟨"StageMachineModel", "channel", "(II)I"⟩ ⟨"StageMachineModel", "channel", "(II)I"⟩ ∈ gTs := tw_c (List.mem_of_getElem? (i := 185) rfl) rfl
theorem tw_666 : Cond.code ⟨"StageMachineModel", "channel", "(II)I"⟩ prog_8_method_41_code 3 (some .int) ∈ gTs := tw_c (List.mem_of_getElem? (i := 186) rfl) rfl
theorem tw_667 : Cond.methodLink "StageMachineLaw" 49 ⟨"StageMachineModel", "pixel", "(III)I"⟩ ∈ gTs := tw_c (List.mem_of_getElem? (i := 187) rfl) rfl
theorem tw_668 : Cond.instanceMethod ⟨"StageMachineModel", "pixel", "(III)I"⟩ ∈ gTs := tw_c (List.mem_of_getElem? (i := 188) rfl) rfl
theorem tw_669 : Cond.selects "StageMachineModel" ⟨"StageMachineModel", "pixel", "(III)I"⟩ ⟨"StageMachineModel", "pixel", "(III)I"⟩ ∈ gTs := tw_c (List.mem_of_getElem? (i := 189) rfl) rfl
theorem tw_670 : Cond.code ⟨"StageMachineModel", "pixel", "(III)I"⟩ prog_8_method_42_code 4 (some .int) ∈ gTs := tw_c (List.mem_of_getElem? (i := 190) rfl) rfl
theorem tw_671 : Cond.methodLink "StageMachineLaw" 53 ⟨"StageMachineModel", "about", "(I)I"⟩ ∈ gTs := tw_c (List.mem_of_getElem? (i := 191) rfl) rfl
theorem tw_672 : Cond.instanceMethod ⟨"StageMachineModel", "about", "(I)I"⟩ ∈ gTs := tw_c (List.mem_of_getElem? (i := 192) rfl) rfl
theorem tw_673 : Cond.selects "StageMachineModel" ⟨"StageMachineModel", "about", "(I)I"⟩ ⟨"StageMachineModel", "about", "(I)I"⟩ ∈ gTs := tw_c (List.mem_of_getElem? (i := 193) rfl) rfl
theorem tw_674 : Cond.code ⟨"StageMachineModel", "about", "(I)I"⟩ prog_8_method_43_code 2 (some .int) ∈ gTs := tw_c (List.mem_of_getElem? (i := 194) rfl) rfl
theorem tw_675 : Cond.selects "StageMachine" ⟨"StageMachine", "bytesOf", "(I)LStageMachine$Bytes;"⟩ ⟨"StageMachine", "bytesOf", "(I)LStageMachine$Bytes;"⟩ ∈ gTs := tw_p (List.mem_of_getElem? (i := 0) rfl) rfl
theorem tw_676 : Cond.selects "StageMachine$Player" ⟨"StageMachine$Player", "doInstruction", "(LStageMachine$Channel;)V"⟩ ⟨"StageMachine$Player", "doInstruction", "(LStageMachine$Channel;)V"⟩ ∈ gTs := tw_p (List.mem_of_getElem? (i := 1) rfl) rfl
theorem tw_677 : Cond.selects "StageMachine$Player" ⟨"StageMachine$Player", "nextByte", "()I"⟩ ⟨"StageMachine$Player", "nextByte", "()I"⟩ ∈ gTs := tw_p (List.mem_of_getElem? (i := 2) rfl) rfl
theorem tw_678 : Cond.selects "StageMachine$Player" ⟨"StageMachine$Player", "compute", "(I)V"⟩ ⟨"StageMachine$Player", "compute", "(I)V"⟩ ∈ gTs := tw_p (List.mem_of_getElem? (i := 3) rfl) rfl
theorem tw_679 : Cond.selects "StageMachine$Player" ⟨"StageMachine$Player", "nextVariable", "()I"⟩ ⟨"StageMachine$Player", "nextVariable", "()I"⟩ ∈ gTs := tw_p (List.mem_of_getElem? (i := 4) rfl) rfl
theorem tw_680 : Cond.selects "StageMachine$Player" ⟨"StageMachine$Player", "nextNumber", "()I"⟩ ⟨"StageMachine$Player", "nextNumber", "()I"⟩ ∈ gTs := tw_p (List.mem_of_getElem? (i := 5) rfl) rfl
theorem tw_681 : Cond.selects "StageMachine$Player" ⟨"StageMachine$Player", "nextPair", "()I"⟩ ⟨"StageMachine$Player", "nextPair", "()I"⟩ ∈ gTs := tw_p (List.mem_of_getElem? (i := 6) rfl) rfl
theorem tw_682 : Cond.selects "StageMachine$Player" ⟨"StageMachine$Player", "store", "(II)V"⟩ ⟨"StageMachine$Player", "store", "(II)V"⟩ ∈ gTs := tw_p (List.mem_of_getElem? (i := 7) rfl) rfl
theorem tw_683 : Cond.selects "StageMachine$Player" ⟨"StageMachine$Player", "nextAddress", "()I"⟩ ⟨"StageMachine$Player", "nextAddress", "()I"⟩ ∈ gTs := tw_p (List.mem_of_getElem? (i := 8) rfl) rfl
theorem tw_684 : Cond.selects "StageMachine$Player" ⟨"StageMachine$Player", "callAddress", "(LStageMachine$Channel;)V"⟩ ⟨"StageMachine$Player", "callAddress", "(LStageMachine$Channel;)V"⟩ ∈ gTs := tw_p (List.mem_of_getElem? (i := 9) rfl) rfl
theorem tw_685 : Cond.selects "StageMachine$Player" ⟨"StageMachine$Player", "fail", "(LStageMachine$Channel;I)V"⟩ ⟨"StageMachine$Player", "fail", "(LStageMachine$Channel;I)V"⟩ ∈ gTs := tw_p (List.mem_of_getElem? (i := 10) rfl) rfl
theorem tw_686 : Cond.selects "StageMachine$Player" ⟨"StageMachine$Player", "end", "()V"⟩ ⟨"StageMachine$Player", "end", "()V"⟩ ∈ gTs := tw_p (List.mem_of_getElem? (i := 11) rfl) rfl
theorem tw_687 : Cond.selects "StageMachine$Player" ⟨"StageMachine$Player", "comeBack", "(LStageMachine$Channel;)V"⟩ ⟨"StageMachine$Player", "comeBack", "(LStageMachine$Channel;)V"⟩ ∈ gTs := tw_p (List.mem_of_getElem? (i := 12) rfl) rfl
theorem tw_688 : Cond.selects "StageMachine$Player" ⟨"StageMachine$Player", "loop", "()V"⟩ ⟨"StageMachine$Player", "loop", "()V"⟩ ∈ gTs := tw_p (List.mem_of_getElem? (i := 13) rfl) rfl
theorem tw_689 : Cond.selects "StageMachine$Player" ⟨"StageMachine$Player", "jumpIf", "(LStageMachine$Channel;)V"⟩ ⟨"StageMachine$Player", "jumpIf", "(LStageMachine$Channel;)V"⟩ ∈ gTs := tw_p (List.mem_of_getElem? (i := 14) rfl) rfl
theorem tw_690 : Cond.selects "StageMachine$Player" ⟨"StageMachine$Player", "nextCompared", "(I)I"⟩ ⟨"StageMachine$Player", "nextCompared", "(I)I"⟩ ∈ gTs := tw_p (List.mem_of_getElem? (i := 15) rfl) rfl
theorem tw_691 : Cond.selects "StageMachine$Player" ⟨"StageMachine$Player", "startOther", "()V"⟩ ⟨"StageMachine$Player", "startOther", "()V"⟩ ∈ gTs := tw_p (List.mem_of_getElem? (i := 16) rfl) rfl
theorem tw_692 : Cond.selects "StageMachine$Player" ⟨"StageMachine$Player", "askOfEach", "(LStageMachine$Channel;)V"⟩ ⟨"StageMachine$Player", "askOfEach", "(LStageMachine$Channel;)V"⟩ ∈ gTs := tw_p (List.mem_of_getElem? (i := 17) rfl) rfl
theorem tw_693 : Cond.selects "StageMachine$Player" ⟨"StageMachine$Player", "handlePages", "(I)V"⟩ ⟨"StageMachine$Player", "handlePages", "(I)V"⟩ ∈ gTs := tw_p (List.mem_of_getElem? (i := 18) rfl) rfl
theorem tw_694 : Cond.selects "StageMachine$Player" ⟨"StageMachine$Player", "draw", "()V"⟩ ⟨"StageMachine$Player", "draw", "()V"⟩ ∈ gTs := tw_p (List.mem_of_getElem? (i := 19) rfl) rfl
theorem tw_695 : Cond.selects "StageMachine$Painter" ⟨"StageMachine$Painter", "drawShape", "(IIIIII)V"⟩ ⟨"StageMachine$Painter", "drawShape", "(IIIIII)V"⟩ ∈ gTs := tw_p (List.mem_of_getElem? (i := 20) rfl) rfl
theorem tw_696 : Cond.selects "StageMachine$Painter" ⟨"StageMachine$Painter", "placePairs", "(IIII)V"⟩ ⟨"StageMachine$Painter", "placePairs", "(IIII)V"⟩ ∈ gTs := tw_p (List.mem_of_getElem? (i := 21) rfl) rfl
theorem tw_697 : Cond.selects "StageMachine$Painter" ⟨"StageMachine$Painter", "drawPolygon", "(II)V"⟩ ⟨"StageMachine$Painter", "drawPolygon", "(II)V"⟩ ∈ gTs := tw_p (List.mem_of_getElem? (i := 22) rfl) rfl
theorem tw_698 : Cond.selects "StageMachine$Painter" ⟨"StageMachine$Painter", "drawRows", "(III)V"⟩ ⟨"StageMachine$Painter", "drawRows", "(III)V"⟩ ∈ gTs := tw_p (List.mem_of_getElem? (i := 23) rfl) rfl
theorem tw_699 : Cond.selects "StageMachine$Painter" ⟨"StageMachine$Painter", "drawGroup", "(IIIIII)V"⟩ ⟨"StageMachine$Painter", "drawGroup", "(IIIIII)V"⟩ ∈ gTs := tw_p (List.mem_of_getElem? (i := 24) rfl) rfl
theorem tw_700 : Cond.selects "StageMachineModel" ⟨"StageMachineModel", "settle", "()V"⟩ ⟨"StageMachineModel", "settle", "()V"⟩ ∈ gTs := tw_p (List.mem_of_getElem? (i := 25) rfl) rfl
theorem tw_701 : Cond.selects "StageMachineModel" ⟨"StageMachineModel", "turn", "(II)V"⟩ ⟨"StageMachineModel", "turn", "(II)V"⟩ ∈ gTs := tw_p (List.mem_of_getElem? (i := 26) rfl) rfl
theorem tw_702 : Cond.selects "StageMachineModel" ⟨"StageMachineModel", "instruct", "()V"⟩ ⟨"StageMachineModel", "instruct", "()V"⟩ ∈ gTs := tw_p (List.mem_of_getElem? (i := 27) rfl) rfl
theorem tw_703 : Cond.selects "StageMachineModel" ⟨"StageMachineModel", "next", "()I"⟩ ⟨"StageMachineModel", "next", "()I"⟩ ∈ gTs := tw_p (List.mem_of_getElem? (i := 28) rfl) rfl
theorem tw_704 : Cond.selects "StageMachineModel" ⟨"StageMachineModel", "place", "()I"⟩ ⟨"StageMachineModel", "place", "()I"⟩ ∈ gTs := tw_p (List.mem_of_getElem? (i := 29) rfl) rfl
theorem tw_705 : Cond.selects "StageMachineModel" ⟨"StageMachineModel", "two", "()I"⟩ ⟨"StageMachineModel", "two", "()I"⟩ ∈ gTs := tw_p (List.mem_of_getElem? (i := 30) rfl) rfl
theorem tw_706 : Cond.selects "StageMachineModel" ⟨"StageMachineModel", "call", "()V"⟩ ⟨"StageMachineModel", "call", "()V"⟩ ∈ gTs := tw_p (List.mem_of_getElem? (i := 31) rfl) rfl
theorem tw_707 : Cond.selects "StageMachineModel" ⟨"StageMachineModel", "fails", "(I)V"⟩ ⟨"StageMachineModel", "fails", "(I)V"⟩ ∈ gTs := tw_p (List.mem_of_getElem? (i := 32) rfl) rfl
theorem tw_708 : Cond.selects "StageMachineModel" ⟨"StageMachineModel", "back", "()V"⟩ ⟨"StageMachineModel", "back", "()V"⟩ ∈ gTs := tw_p (List.mem_of_getElem? (i := 33) rfl) rfl
theorem tw_709 : Cond.selects "StageMachineModel" ⟨"StageMachineModel", "loop", "()V"⟩ ⟨"StageMachineModel", "loop", "()V"⟩ ∈ gTs := tw_p (List.mem_of_getElem? (i := 34) rfl) rfl
theorem tw_710 : Cond.selects "StageMachineModel" ⟨"StageMachineModel", "name", "()I"⟩ ⟨"StageMachineModel", "name", "()I"⟩ ∈ gTs := tw_p (List.mem_of_getElem? (i := 35) rfl) rfl
theorem tw_711 : Cond.selects "StageMachineModel" ⟨"StageMachineModel", "when", "()V"⟩ ⟨"StageMachineModel", "when", "()V"⟩ ∈ gTs := tw_p (List.mem_of_getElem? (i := 36) rfl) rfl
theorem tw_712 : Cond.selects "StageMachineModel" ⟨"StageMachineModel", "signed", "()I"⟩ ⟨"StageMachineModel", "signed", "()I"⟩ ∈ gTs := tw_p (List.mem_of_getElem? (i := 37) rfl) rfl
theorem tw_713 : Cond.selects "StageMachineModel" ⟨"StageMachineModel", "start", "()V"⟩ ⟨"StageMachineModel", "start", "()V"⟩ ∈ gTs := tw_p (List.mem_of_getElem? (i := 38) rfl) rfl
theorem tw_714 : Cond.selects "StageMachineModel" ⟨"StageMachineModel", "each", "()V"⟩ ⟨"StageMachineModel", "each", "()V"⟩ ∈ gTs := tw_p (List.mem_of_getElem? (i := 39) rfl) rfl
theorem tw_715 : Cond.selects "StageMachineModel" ⟨"StageMachineModel", "page", "()I"⟩ ⟨"StageMachineModel", "page", "()I"⟩ ∈ gTs := tw_p (List.mem_of_getElem? (i := 40) rfl) rfl
theorem tw_716 : Cond.selects "StageMachineModel" ⟨"StageMachineModel", "fill", "()V"⟩ ⟨"StageMachineModel", "fill", "()V"⟩ ∈ gTs := tw_p (List.mem_of_getElem? (i := 41) rfl) rfl
theorem tw_717 : Cond.selects "StageMachineModel" ⟨"StageMachineModel", "copy", "()V"⟩ ⟨"StageMachineModel", "copy", "()V"⟩ ∈ gTs := tw_p (List.mem_of_getElem? (i := 42) rfl) rfl
theorem tw_718 : Cond.selects "StageMachineModel" ⟨"StageMachineModel", "draw", "()V"⟩ ⟨"StageMachineModel", "draw", "()V"⟩ ∈ gTs := tw_p (List.mem_of_getElem? (i := 43) rfl) rfl
theorem tw_719 : Cond.selects "StageMachineModel" ⟨"StageMachineModel", "lay", "(IIIII)V"⟩ ⟨"StageMachineModel", "lay", "(IIIII)V"⟩ ∈ gTs := tw_p (List.mem_of_getElem? (i := 44) rfl) rfl
theorem tw_720 : Cond.selects "StageMachineModel" ⟨"StageMachineModel", "begin", "(I)V"⟩ ⟨"StageMachineModel", "begin", "(I)V"⟩ ∈ gTs := tw_p (List.mem_of_getElem? (i := 45) rfl) rfl
theorem tw_721 : Cond.selects "StageMachineModel" ⟨"StageMachineModel", "read", "()I"⟩ ⟨"StageMachineModel", "read", "()I"⟩ ∈ gTs := tw_p (List.mem_of_getElem? (i := 46) rfl) rfl
theorem tw_722 : Cond.selects "StageMachineModel" ⟨"StageMachineModel", "polygon", "(III)V"⟩ ⟨"StageMachineModel", "polygon", "(III)V"⟩ ∈ gTs := tw_p (List.mem_of_getElem? (i := 47) rfl) rfl
theorem tw_723 : Cond.selects "StageMachineModel" ⟨"StageMachineModel", "scaled", "(I)I"⟩ ⟨"StageMachineModel", "scaled", "(I)I"⟩ ∈ gTs := tw_p (List.mem_of_getElem? (i := 48) rfl) rfl
theorem tw_724 : Cond.selects "StageMachineModel" ⟨"StageMachineModel", "line", "(III)V"⟩ ⟨"StageMachineModel", "line", "(III)V"⟩ ∈ gTs := tw_p (List.mem_of_getElem? (i := 49) rfl) rfl
theorem tw_725 : Cond.selects "StageMachineModel" ⟨"StageMachineModel", "group", "(IIII)V"⟩ ⟨"StageMachineModel", "group", "(IIII)V"⟩ ∈ gTs := tw_p (List.mem_of_getElem? (i := 50) rfl) rfl
theorem tw_726 : Cond.selects "StageMachineModel" ⟨"StageMachineModel", "swap", "(II)V"⟩ ⟨"StageMachineModel", "swap", "(II)V"⟩ ∈ gTs := tw_p (List.mem_of_getElem? (i := 51) rfl) rfl
theorem tw_727 : Cond.selects "StageMachineModel" ⟨"StageMachineModel", "reckon", "(I)V"⟩ ⟨"StageMachineModel", "reckon", "(I)V"⟩ ∈ gTs := tw_p (List.mem_of_getElem? (i := 52) rfl) rfl
end
section
abbrev gw_S : Type := Nat → Nat → Int32
def gw_u (S : gw_S) (i k : Nat) (x : Int32) : gw_S := va_up S i (upd (S i) k x)
def gw_a (S : gw_S) (i : Nat) (f : Nat → Int32) : gw_S := va_up S i f
def gw_n {α β : Type} (x : α) (K : α → β) : β := K x
def gw_b {α β γ : Type} (p : α × β) (K : α → β → γ) : γ := K p.1 p.2
def gw_L1 {A γ : Type} (step : (gw_S → A → γ) → gw_S → A → γ) (d : gw_S → A → γ) : Nat → gw_S → A → γ
  | 0 => d
  | n + 1 => step (gw_L1 step d n)
def gw_L2 {A B γ : Type} (step : (gw_S → A → B → γ) → gw_S → A → B → γ) (d : gw_S → A → B → γ) : Nat → gw_S → A → B → γ
  | 0 => d
  | n + 1 => step (gw_L2 step d n)
def gw_L3 {A B C γ : Type} (step : (gw_S → A → B → C → γ) → gw_S → A → B → C → γ) (d : gw_S → A → B → C → γ) : Nat → gw_S → A → B → C → γ
  | 0 => d
  | n + 1 => step (gw_L3 step d n)
def gw_L0 {γ : Type} (step : (gw_S → γ) → gw_S → γ) (d : gw_S → γ) : Nat → gw_S → γ
  | 0 => d
  | n + 1 => step (gw_L0 step d n)
def gw_rI (x : Int32) : Option Value := some (.int x)
def gw_rJ (x : Int64) : Option Value := some (.long x)
def gw_rV (_ : Unit) : Option Value := none
def gw_rA (ad : Nat → Nat) (x : Option Nat) : Option Value := some (match x with | none => .null | some i => .ref (ad i))
def gw_rm (d : Nat) : Room := { frames := d, cells := 0, slots := 0, locals := 40 * d }
def gw_W (NC : Nat) (ad : Nat → Nat) (E : Nat → (Nat → Int32) → va_E) (S : gw_S) : va_W := (List.range NC).map (fun i => (ad i, E i (S i)))
def gw_P (D : va_G) (cl : List vw_C) (NC : Nat) (ad : Nat → Nat) (E : Nat → (Nat → Int32) → va_E) (S : gw_S) (H : Heap) : Prop := va_P D cl (gw_W NC ad E S) H
def gw_A (NC : Nat) (ad : Nat → Nat) (sz : Nat) : Nat → Prop := fun q => (∃ i, i < NC ∧ q = ad i) ∨ sz ≤ q
def gw_J (NC : Nat) (ad : Nat → Nat) : Prop := ∀ i j, i < NC → j < NC → ad i = ad j → i = j
theorem gw_get0 {NC : Nat} {ad : Nat → Nat} {E : Nat → (Nat → Int32) → va_E} {S : gw_S} {i : Nat} (h : i < NC) : (gw_W NC ad E S)[i]? = some (ad i, E i (S i)) := by
  simp [gw_W, List.getElem?_map, List.getElem?_range h]
theorem gw_inv {NC : Nat} {ad : Nat → Nat} {E : Nat → (Nat → Int32) → va_E} {S : gw_S} {i : Nat} {q : Nat × va_E} (h : (gw_W NC ad E S)[i]? = some q) : i < NC ∧ q = (ad i, E i (S i)) := by
  have hi : i < NC := by
    have := (List.getElem?_eq_some_iff.mp h).1
    simpa [gw_W] using this
  rw [gw_get0 hi] at h
  exact ⟨hi, (Option.some.inj h).symm⟩
theorem gw_set {NC : Nat} {ad : Nat → Nat} {E : Nat → (Nat → Int32) → va_E} {S : gw_S} {i : Nat} (h : i < NC) (x : Nat → Int32) : (gw_W NC ad E S).set i (ad i, E i x) = gw_W NC ad E (gw_a S i x) := by
  apply List.ext_getElem?
  intro j
  by_cases hj : j < NC
  · by_cases e : j = i
    · subst e
      rw [List.getElem?_set_self (by simpa [gw_W] using h), gw_get0 hj]
      simp [gw_a, va_up]
    · rw [List.getElem?_set_ne (fun q => e q.symm), gw_get0 hj, gw_get0 hj]
      simp [gw_a, va_up, e]
  · have h1 : ((gw_W NC ad E S).set i (ad i, E i x)).length ≤ j := by simp [gw_W]; omega
    have h2 : (gw_W NC ad E (gw_a S i x)).length ≤ j := by simp [gw_W]; omega
    rw [List.getElem?_eq_none h1, List.getElem?_eq_none h2]
theorem gw_D {NC : Nat} {ad : Nat → Nat} {E : Nat → (Nat → Int32) → va_E} {S : gw_S} {A : Nat → Prop} (hJ : gw_J NC ad) (hA : ∀ i, i < NC → A (ad i)) : va_D A (gw_W NC ad E S) := by
  refine ⟨?_, ?_⟩
  · intro i j p q hp hq e
    obtain ⟨hi, rfl⟩ := gw_inv hp
    obtain ⟨hj, rfl⟩ := gw_inv hq
    exact hJ i j hi hj e
  · intro k q hq
    obtain ⟨hi, rfl⟩ := gw_inv hq
    exact hA k hi
abbrev gx_M : Type := Program × Launch × Env × Room × State × MethodId × Array Value × List Frame × Method × Code
def gw_Q {α : Type} (rv : α → Option Value) (Wd : gw_S → Heap → Prop) (A : Nat → Prop) (ans : α × gw_S) : Array Value → State → Outcome → State → Prop := fun _ st oc t => (oc = .returned (rv ans.1) ∧ Wd ans.2 t.heap) ∧ va_F A st t
def gw_Pc (Ts : List Cond) (D : va_G) (cl : List vw_C) (tys : List (ClassId × FieldType)) (Wd : gw_S → Heap → Prop) (sz : Nat) (S : gw_S) (av : List Value) : Array Value → State → Prop := fun v U => v = av.toArray ∧ U.heap.size = sz ∧ Wd S U.heap ∧ va_K D cl tys U ∧ ∀ w ∈ Ts, gw_isN w = true → va_Nw w U
def gw_M {α : Type} (l : Launch) (y : MethodName) (cc : ByteArray) (maxL : Nat) (ret : Option FieldType) (Ts : List Cond) (rm : Room) (D : va_G) (cl : List vw_C) (tys : List (ClassId × FieldType)) (NC : Nat) (ad : Nat → Nat) (E : Nat → (Nat → Int32) → va_E) (rv : α → Option Value) (av : List Value) (S : gw_S) (ans : α × gw_S) : Prop :=
  ∀ sz : Nat, Met l y (Cond.code y cc maxL ret :: Ts.filter goodWord) rm (gw_Pc Ts D cl tys (gw_P D cl NC ad E) sz S av) (gw_Q rv (gw_P D cl NC ad E) (gw_A NC ad sz) ans) 0 0 (gw_A NC ad sz)
abbrev gw_Wx (X : gx_M) (H : Heap) (locs : List Loc) (Q : State → Prop) (g : JFrame) : Prop := W X.1 X.2.1 X.2.2.1 X.2.2.2.1 X.2.2.2.2.1 X.2.2.2.2.2.1 X.2.2.2.2.2.2.1 X.2.2.2.2.2.2.2.1 X.2.2.2.2.2.2.2.2.1 X.2.2.2.2.2.2.2.2.2 H locs 0 0 Q g
def gw_V {α : Type} (X : gx_M) (Wd : gw_S → Heap → Prop) (A : Nat → Prop) (nL : Nat) (rv : α → Option Value) (S : gw_S) (pc : Nat) (lv : List (Nat × Value)) (st : List Value) (ans : α × gw_S) : Prop :=
  ∀ (H : Heap) (locs : List Loc) (ls : Array Slot), Wd S H → va_S A X.2.2.2.2.1.heap H locs → lv_has ls nL lv →
    gw_Wx X H locs (MQ X.2.2.2.2.2.2.2.1 (gw_Q rv Wd A ans) X.2.2.2.2.2.2.1 X.2.2.2.2.1 0 0 A) (F0 X.2.2.2.2.2.1 pc ls st)
def gw_F (X : gx_M) (l : Launch) (cc : ByteArray) (nL : Nat) (ret : Option FieldType) (own : String) (Ts : List Cond) (rm : Room) (D : va_G) (cl : List vw_C) (tys : List (ClassId × FieldType)) (NC : Nat) (ad : Nat → Nat) (A : Nat → Prop) : Prop :=
  X.1.tables.exec = Jvm.exec ∧ X.2.2.2.2.2.2.2.2.2.code = cc ∧ X.2.2.2.2.2.2.2.2.2.maxLocals = nL ∧ X.2.2.2.2.1.vm.findClass own = some X.2.2.2.2.2.1.cls ∧ (∀ w ∈ Ts, w.before X.2.2.2.2.2.2.1 X.2.2.2.2.1 = true) ∧ X.2.2.2.1 = rm ∧ X.2.2.2.2.2.2.2.2.1.sig.returnType = ret ∧ X.2.2.2.2.2.2.2.2.1.locks = false ∧ X.2.1 = l ∧ va_K D cl tys X.2.2.2.2.1 ∧ gw_J NC ad ∧ A = gw_A NC ad X.2.2.2.2.1.heap.size
theorem gw_FJ {X : gx_M} {l : Launch} {cc : ByteArray} {nL : Nat} {ret : Option FieldType} {own : String} {Ts : List Cond} {rm : Room} {D : va_G} {cl : List vw_C} {tys : List (ClassId × FieldType)} {NC : Nat} {ad : Nat → Nat} {A : Nat → Prop} (F : gw_F X l cc nL ret own Ts rm D cl tys NC ad A) : gw_J NC ad := F.2.2.2.2.2.2.2.2.2.2.1
theorem gw_Me {α : Type} {l : Launch} {y : MethodName} {cc : ByteArray} {maxL : Nat} {ret : Option FieldType} {Ts : List Cond} {rm : Room} {D : va_G} {cl : List vw_C} {tys : List (ClassId × FieldType)} {NC : Nat} {ad : Nat → Nat} {E : Nat → (Nat → Int32) → va_E} {rv : α → Option Value} {av : List Value} {S : gw_S} {a b : α × gw_S} (e : a = b) (h : gw_M l y cc maxL ret Ts rm D cl tys NC ad E rv av S a) : gw_M l y cc maxL ret Ts rm D cl tys NC ad E rv av S b := e ▸ h
theorem gw_start {α : Type} {l : Launch} {y : MethodName} {Tb : List Cond} {rm : Room} {D : va_G} {cl : List vw_C} {tys : List (ClassId × FieldType)} {NC : Nat} {ad : Nat → Nat} {E : Nat → (Nat → Int32) → va_E} {rv : α → Option Value} {av : List Value} {S : gw_S} {ans : α × gw_S} {cc : ByteArray} {maxL : Nat} {ret : Option FieldType}
    (hT : ∀ w ∈ Tb, goodWord w = true ∨ gw_isN w = true) (hy : plainFor y = true) (hJ : gw_J NC ad) (hav : (lg_sl av).length ≤ maxL)
    (body : ∀ (X : gx_M) (A : Nat → Prop), gw_F X l cc maxL ret y.cls Tb rm D cl tys NC ad A → gw_V X (gw_P D cl NC ad E) A maxL rv S 0 (lv_args 0 av) [] ans) : gw_M l y cc maxL ret Tb rm D cl tys NC ad E rv av S ans := by
  intro sz
  refine va_MetF (cc := cc) (maxL := maxL) (ret := ret) hy rfl ?_
  intro p e s m args below meth c s₁ B hml hv
  obtain ⟨rfl, hsz, hP, hK, hN⟩ := hv
  subst hsz
  have hts := atoms_spec (ws := Cond.code y cc maxL ret :: Tb.filter goodWord) B.pre
  have hall : ∀ w ∈ Tb, w.before av.toArray s = true := by
    intro w hw
    rcases hT w hw with h | h
    · exact hts w (List.mem_cons_of_mem _ (List.mem_filter.mpr ⟨hw, h⟩))
    · exact va_Nw.use (gw_isN_tab h) (hN w hw h)
  rw [lg_entry_eq]
  exact body (p, l, e, (headSpec (Cond.code y cc maxL ret :: Tb.filter goodWord) rm).room, s, m, av.toArray, below, meth, c) (gw_A NC ad s.heap.size) ⟨B.exec, B.bytes, hml, findClass_of_methodNamed B.named, hall, rfl, B.returns, B.notSynchronized, rfl, hK, hJ, rfl⟩ s.heap [] _ hP va_S.rf (lv_entry av hav)
section GW
variable {α : Type} {X : gx_M} {l : Launch} {cc : ByteArray} {nL : Nat} {ret : Option FieldType} {own : String} {Ts : List Cond} {rm : Room} {D : va_G} {cl : List vw_C} {tys : List (ClassId × FieldType)} {NC : Nat} {ad : Nat → Nat} {A : Nat → Prop} {Wd : gw_S → Heap → Prop} {rv : α → Option Value} {S : gw_S} {pc : Nat} {lv : List (Nat × Value)} {rest : List Value} {ans : α × gw_S}
theorem gw_ans {st : List Value} {a b : α × gw_S} (h : a = b) (k : gw_V X Wd A nL rv S pc lv st b) : gw_V X Wd A nL rv S pc lv st a := h ▸ k
theorem gw_to {st st' : List Value} {S' : gw_S} (hs : S = S') (h : st = st') (k : gw_V X Wd A nL rv S' pc lv st' ans) : gw_V X Wd A nL rv S pc lv st ans := by subst hs; subst h; exact k
theorem gw_lve {st : List Value} {lv' : List (Nat × Value)} (h : lv = lv') (k : gw_V X Wd A nL rv S pc lv' st ans) : gw_V X Wd A nL rv S pc lv st ans := by subst h; exact k
theorem gw_lvs {st : List Value} {lv' : List (Nat × Value)} (ks : List Nat) (h : lv_pick lv ks = lv') (k : gw_V X Wd A nL rv S pc lv' st ans) : gw_V X Wd A nL rv S pc lv st ans := fun H locs ls hP hS hl => k H locs ls hP hS (lv_sub hl ks h)
theorem gw_nI {x : Int32} {K : Int32 → α × gw_S} (k : ∀ y : Int32, y = x → gw_V X Wd A nL rv S pc lv (.int y :: rest) (K y)) : gw_V X Wd A nL rv S pc lv (.int x :: rest) (gw_n x K) := k x rfl
theorem gw_nJ {x : Int64} {K : Int64 → α × gw_S} (k : ∀ y : Int64, y = x → gw_V X Wd A nL rv S pc lv (.long y :: rest) (K y)) : gw_V X Wd A nL rv S pc lv (.long x :: rest) (gw_n x K) := k x rfl
theorem gw_nS {T : gw_S} {st : List Value} {K : gw_S → α × gw_S} (k : ∀ U : gw_S, U = T → gw_V X Wd A nL rv U pc lv st (K U)) : gw_V X Wd A nL rv T pc lv st (gw_n T K) := k T rfl
theorem gw_spl {c : Prop} [Decidable c] {st : List Value} {a b : α × gw_S} (ka : c → gw_V X Wd A nL rv S pc lv st a) (kb : ¬ c → gw_V X Wd A nL rv S pc lv st b) : gw_V X Wd A nL rv S pc lv st (if c then a else b) := by
  by_cases h : c
  · rw [if_pos h]; exact ka h
  · rw [if_neg h]; exact kb h
theorem gw_bI {a : Int32 × gw_S} {K : Int32 → gw_S → α × gw_S} {P : Int32 → gw_S → Prop} (hp : P a.1 a.2) (k : ∀ r U, P r U → gw_V X Wd A nL rv U pc lv (.int r :: rest) (K r U)) : gw_V X Wd A nL rv a.2 pc lv ((gw_rI a.1).toList ++ rest) (gw_b a K) := k a.1 a.2 hp
theorem gw_bJ {a : Int64 × gw_S} {K : Int64 → gw_S → α × gw_S} {P : Int64 → gw_S → Prop} (hp : P a.1 a.2) (k : ∀ r U, P r U → gw_V X Wd A nL rv U pc lv (.long r :: rest) (K r U)) : gw_V X Wd A nL rv a.2 pc lv ((gw_rJ a.1).toList ++ rest) (gw_b a K) := k a.1 a.2 hp
theorem gw_bV {a : Unit × gw_S} {K : Unit → gw_S → α × gw_S} {P : Unit → gw_S → Prop} (hp : P a.1 a.2) (k : ∀ r U, P r U → gw_V X Wd A nL rv U pc lv rest (K r U)) : gw_V X Wd A nL rv a.2 pc lv ((gw_rV a.1).toList ++ rest) (gw_b a K) := k a.1 a.2 hp
theorem gw_iconst (F : gw_F X l cc nL ret own Ts rm D cl tys NC ad A) {n : Int} {v : Int32} (hd : decode cc pc = .ok (.iconst n, 1)) (hv : Int32.ofInt n = v) (k : gw_V X Wd A nL rv S (pc + 1) lv (.int v :: rest) ans) : gw_V X Wd A nL rv S pc lv rest ans := fun H locs ls hP hS hl => lv_iconst F.1 F.2.1 hd hv (k H locs ls hP hS hl)
theorem gw_bipush (F : gw_F X l cc nL ret own Ts rm D cl tys NC ad A) {n : Int} {v : Int32} (hd : decode cc pc = .ok (.bipush n, 2)) (hv : (Int8.ofInt n).toInt32 = v) (k : gw_V X Wd A nL rv S (pc + 2) lv (.int v :: rest) ans) : gw_V X Wd A nL rv S pc lv rest ans := fun H locs ls hP hS hl => lv_bipush F.1 F.2.1 hd hv (k H locs ls hP hS hl)
theorem gw_sipush (F : gw_F X l cc nL ret own Ts rm D cl tys NC ad A) {n : Int} {v : Int32} (hd : decode cc pc = .ok (.sipush n, 3)) (hv : (Int16.ofInt n).toInt32 = v) (k : gw_V X Wd A nL rv S (pc + 3) lv (.int v :: rest) ans) : gw_V X Wd A nL rv S pc lv rest ans := fun H locs ls hP hS hl => lv_sipush F.1 F.2.1 hd hv (k H locs ls hP hS hl)
theorem gw_lconst (F : gw_F X l cc nL ret own Ts rm D cl tys NC ad A) {n : Fin 2} {v : Int64} (hd : decode cc pc = .ok (.lconst n, 1)) (hv : Int64.ofNat (n : Nat) = v) (k : gw_V X Wd A nL rv S (pc + 1) lv (.long v :: rest) ans) : gw_V X Wd A nL rv S pc lv rest ans := fun H locs ls hP hS hl => lv_lconst F.1 F.2.1 hd hv (k H locs ls hP hS hl)
theorem gw_null (F : gw_F X l cc nL ret own Ts rm D cl tys NC ad A)  (hd : decode cc pc = .ok (.aconst_null, 1)) (k : gw_V X Wd A nL rv S (pc + 1) lv (.null :: rest) ans) : gw_V X Wd A nL rv S pc lv rest ans := fun H locs ls hP hS hl => lv_null F.1 F.2.1 hd (k H locs ls hP hS hl)
theorem gw_iload_n (F : gw_F X l cc nL ret own Ts rm D cl tys NC ad A) {j : Fin 4} {i : Nat} {x : Int32} (q : Nat) (hd : decode cc pc = .ok (.iload_n j, 1)) (hi : (j : Nat) = i) (hk : lv[q]? = some (i, .int x)) (k : gw_V X Wd A nL rv S (pc + 1) lv (.int x :: rest) ans) : gw_V X Wd A nL rv S pc lv rest ans := fun H locs ls hP hS hl => lv_iload_n F.1 F.2.1 hd hi (lv_at hl q hk) (k H locs ls hP hS hl)
theorem gw_iload (F : gw_F X l cc nL ret own Ts rm D cl tys NC ad A) {i : Nat} {x : Int32} (q : Nat) (hd : decode cc pc = .ok (.iload i, 2)) (hk : lv[q]? = some (i, .int x)) (k : gw_V X Wd A nL rv S (pc + 2) lv (.int x :: rest) ans) : gw_V X Wd A nL rv S pc lv rest ans := fun H locs ls hP hS hl => lv_iload F.1 F.2.1 hd (lv_at hl q hk) (k H locs ls hP hS hl)
theorem gw_istore_n (F : gw_F X l cc nL ret own Ts rm D cl tys NC ad A) {j : Fin 4} {i : Nat} {x : Int32} {lv' : List (Nat × Value)} (hd : decode cc pc = .ok (.istore_n j, 1)) (hi : (j : Nat) = i) (hn : i < nL) (he : (i, Value.int x) :: lv.filter (fun q => !(q.1 == i) && !(q.1 + 1 == i && q.2.category == 2)) = lv') (k : gw_V X Wd A nL rv S (pc + 1) lv' rest ans) : gw_V X Wd A nL rv S pc lv (.int x :: rest) ans := fun H locs ls hP hS hl => lv_istore_n F.1 F.2.1 hd hi hl hn he (fun ls2 hl2 => k H locs ls2 hP hS hl2)
theorem gw_istore (F : gw_F X l cc nL ret own Ts rm D cl tys NC ad A) {i : Nat} {x : Int32} {lv' : List (Nat × Value)} (hd : decode cc pc = .ok (.istore i, 2)) (hn : i < nL) (he : (i, Value.int x) :: lv.filter (fun q => !(q.1 == i) && !(q.1 + 1 == i && q.2.category == 2)) = lv') (k : gw_V X Wd A nL rv S (pc + 2) lv' rest ans) : gw_V X Wd A nL rv S pc lv (.int x :: rest) ans := fun H locs ls hP hS hl => lv_istore F.1 F.2.1 hd hl hn he (fun ls2 hl2 => k H locs ls2 hP hS hl2)
theorem gw_lload_n (F : gw_F X l cc nL ret own Ts rm D cl tys NC ad A) {j : Fin 4} {i : Nat} {x : Int64} (q : Nat) (hd : decode cc pc = .ok (.lload_n j, 1)) (hi : (j : Nat) = i) (hk : lv[q]? = some (i, .long x)) (k : gw_V X Wd A nL rv S (pc + 1) lv (.long x :: rest) ans) : gw_V X Wd A nL rv S pc lv rest ans := fun H locs ls hP hS hl => lv_lload_n F.1 F.2.1 hd hi (lv_at hl q hk) (k H locs ls hP hS hl)
theorem gw_lload (F : gw_F X l cc nL ret own Ts rm D cl tys NC ad A) {i : Nat} {x : Int64} (q : Nat) (hd : decode cc pc = .ok (.lload i, 2)) (hk : lv[q]? = some (i, .long x)) (k : gw_V X Wd A nL rv S (pc + 2) lv (.long x :: rest) ans) : gw_V X Wd A nL rv S pc lv rest ans := fun H locs ls hP hS hl => lv_lload F.1 F.2.1 hd (lv_at hl q hk) (k H locs ls hP hS hl)
theorem gw_lstore_n (F : gw_F X l cc nL ret own Ts rm D cl tys NC ad A) {j : Fin 4} {i : Nat} {x : Int64} {lv' : List (Nat × Value)} (hd : decode cc pc = .ok (.lstore_n j, 1)) (hi : (j : Nat) = i) (hn : i + 1 < nL) (he : (i, Value.long x) :: lv.filter (fun q => !(q.1 == i) && (!(q.1 == i + 1) && !(q.1 + 1 == i && q.2.category == 2))) = lv') (k : gw_V X Wd A nL rv S (pc + 1) lv' rest ans) : gw_V X Wd A nL rv S pc lv (.long x :: rest) ans := fun H locs ls hP hS hl => lv_lstore_n F.1 F.2.1 hd hi hl hn he (fun ls2 hl2 => k H locs ls2 hP hS hl2)
theorem gw_lstore (F : gw_F X l cc nL ret own Ts rm D cl tys NC ad A) {i : Nat} {x : Int64} {lv' : List (Nat × Value)} (hd : decode cc pc = .ok (.lstore i, 2)) (hn : i + 1 < nL) (he : (i, Value.long x) :: lv.filter (fun q => !(q.1 == i) && (!(q.1 == i + 1) && !(q.1 + 1 == i && q.2.category == 2))) = lv') (k : gw_V X Wd A nL rv S (pc + 2) lv' rest ans) : gw_V X Wd A nL rv S pc lv (.long x :: rest) ans := fun H locs ls hP hS hl => lv_lstore F.1 F.2.1 hd hl hn he (fun ls2 hl2 => k H locs ls2 hP hS hl2)
theorem gw_aload_n (F : gw_F X l cc nL ret own Ts rm D cl tys NC ad A) {j : Fin 4} {i : Nat} {x : Nat} (q : Nat) (hd : decode cc pc = .ok (.aload_n j, 1)) (hi : (j : Nat) = i) (hk : lv[q]? = some (i, .ref x)) (k : gw_V X Wd A nL rv S (pc + 1) lv (.ref x :: rest) ans) : gw_V X Wd A nL rv S pc lv rest ans := fun H locs ls hP hS hl => lv_aload_n F.1 F.2.1 hd hi (lv_at hl q hk) (k H locs ls hP hS hl)
theorem gw_aload (F : gw_F X l cc nL ret own Ts rm D cl tys NC ad A) {i : Nat} {x : Nat} (q : Nat) (hd : decode cc pc = .ok (.aload i, 2)) (hk : lv[q]? = some (i, .ref x)) (k : gw_V X Wd A nL rv S (pc + 2) lv (.ref x :: rest) ans) : gw_V X Wd A nL rv S pc lv rest ans := fun H locs ls hP hS hl => lv_aload F.1 F.2.1 hd (lv_at hl q hk) (k H locs ls hP hS hl)
theorem gw_astore_n (F : gw_F X l cc nL ret own Ts rm D cl tys NC ad A) {j : Fin 4} {i : Nat} {x : Nat} {lv' : List (Nat × Value)} (hd : decode cc pc = .ok (.astore_n j, 1)) (hi : (j : Nat) = i) (hn : i < nL) (he : (i, Value.ref x) :: lv.filter (fun q => !(q.1 == i) && !(q.1 + 1 == i && q.2.category == 2)) = lv') (k : gw_V X Wd A nL rv S (pc + 1) lv' rest ans) : gw_V X Wd A nL rv S pc lv (.ref x :: rest) ans := fun H locs ls hP hS hl => lv_astore_n F.1 F.2.1 hd hi hl hn he (fun ls2 hl2 => k H locs ls2 hP hS hl2)
theorem gw_astore (F : gw_F X l cc nL ret own Ts rm D cl tys NC ad A) {i : Nat} {x : Nat} {lv' : List (Nat × Value)} (hd : decode cc pc = .ok (.astore i, 2)) (hn : i < nL) (he : (i, Value.ref x) :: lv.filter (fun q => !(q.1 == i) && !(q.1 + 1 == i && q.2.category == 2)) = lv') (k : gw_V X Wd A nL rv S (pc + 2) lv' rest ans) : gw_V X Wd A nL rv S pc lv (.ref x :: rest) ans := fun H locs ls hP hS hl => lv_astore F.1 F.2.1 hd hl hn he (fun ls2 hl2 => k H locs ls2 hP hS hl2)
theorem gw_aload_nN (F : gw_F X l cc nL ret own Ts rm D cl tys NC ad A) {j : Fin 4} {i : Nat} (q : Nat) (hd : decode cc pc = .ok (.aload_n j, 1)) (hi : (j : Nat) = i) (hk : lv[q]? = some (i, .null)) (k : gw_V X Wd A nL rv S (pc + 1) lv (.null :: rest) ans) : gw_V X Wd A nL rv S pc lv rest ans := fun H locs ls hP hS hl => lv_aload_nN F.1 F.2.1 hd hi (lv_at hl q hk) (k H locs ls hP hS hl)
theorem gw_aloadN (F : gw_F X l cc nL ret own Ts rm D cl tys NC ad A) {i : Nat} (q : Nat) (hd : decode cc pc = .ok (.aload i, 2)) (hk : lv[q]? = some (i, .null)) (k : gw_V X Wd A nL rv S (pc + 2) lv (.null :: rest) ans) : gw_V X Wd A nL rv S pc lv rest ans := fun H locs ls hP hS hl => lv_aloadN F.1 F.2.1 hd (lv_at hl q hk) (k H locs ls hP hS hl)
theorem gw_astore_nN (F : gw_F X l cc nL ret own Ts rm D cl tys NC ad A) {j : Fin 4} {i : Nat} {lv' : List (Nat × Value)} (hd : decode cc pc = .ok (.astore_n j, 1)) (hi : (j : Nat) = i) (hn : i < nL) (he : (i, Value.null) :: lv.filter (fun q => !(q.1 == i) && !(q.1 + 1 == i && q.2.category == 2)) = lv') (k : gw_V X Wd A nL rv S (pc + 1) lv' rest ans) : gw_V X Wd A nL rv S pc lv (.null :: rest) ans := fun H locs ls hP hS hl => lv_astore_nN F.1 F.2.1 hd hi hl hn he (fun ls2 hl2 => k H locs ls2 hP hS hl2)
theorem gw_astoreN (F : gw_F X l cc nL ret own Ts rm D cl tys NC ad A) {i : Nat} {lv' : List (Nat × Value)} (hd : decode cc pc = .ok (.astore i, 2)) (hn : i < nL) (he : (i, Value.null) :: lv.filter (fun q => !(q.1 == i) && !(q.1 + 1 == i && q.2.category == 2)) = lv') (k : gw_V X Wd A nL rv S (pc + 2) lv' rest ans) : gw_V X Wd A nL rv S pc lv (.null :: rest) ans := fun H locs ls hP hS hl => lv_astoreN F.1 F.2.1 hd hl hn he (fun ls2 hl2 => k H locs ls2 hP hS hl2)
theorem gw_iinc (F : gw_F X l cc nL ret own Ts rm D cl tys NC ad A) {i : Nat} {n : Int} {x v : Int32} {lv' : List (Nat × Value)} (q : Nat) (hd : decode cc pc = .ok (.iinc i n, 3)) (hk : lv[q]? = some (i, .int x)) (hv : x + Int32.ofInt n = v) (hn : i < nL) (he : (i, Value.int v) :: lv.filter (fun q => !(q.1 == i) && !(q.1 + 1 == i && q.2.category == 2)) = lv') (k : gw_V X Wd A nL rv S (pc + 3) lv' rest ans) : gw_V X Wd A nL rv S pc lv rest ans := fun H locs ls hP hS hl => lv_iinc F.1 F.2.1 hd hl hk hv hn he (fun ls2 hl2 => k H locs ls2 hP hS hl2)
theorem gw_iadd (F : gw_F X l cc nL ret own Ts rm D cl tys NC ad A) {x y : Int32} (hd : decode cc pc = .ok (.iadd, 1)) (k : gw_V X Wd A nL rv S (pc + 1) lv (.int (x + y) :: rest) ans) : gw_V X Wd A nL rv S pc lv (.int y :: .int x :: rest) ans := fun H locs ls hP hS hl => lv_iadd F.1 F.2.1 hd (k H locs ls hP hS hl)
theorem gw_isub (F : gw_F X l cc nL ret own Ts rm D cl tys NC ad A) {x y : Int32} (hd : decode cc pc = .ok (.isub, 1)) (k : gw_V X Wd A nL rv S (pc + 1) lv (.int (x - y) :: rest) ans) : gw_V X Wd A nL rv S pc lv (.int y :: .int x :: rest) ans := fun H locs ls hP hS hl => lv_isub F.1 F.2.1 hd (k H locs ls hP hS hl)
theorem gw_imul (F : gw_F X l cc nL ret own Ts rm D cl tys NC ad A) {x y : Int32} (hd : decode cc pc = .ok (.imul, 1)) (k : gw_V X Wd A nL rv S (pc + 1) lv (.int (x * y) :: rest) ans) : gw_V X Wd A nL rv S pc lv (.int y :: .int x :: rest) ans := fun H locs ls hP hS hl => lv_imul F.1 F.2.1 hd (k H locs ls hP hS hl)
theorem gw_iand (F : gw_F X l cc nL ret own Ts rm D cl tys NC ad A) {x y : Int32} (hd : decode cc pc = .ok (.iand, 1)) (k : gw_V X Wd A nL rv S (pc + 1) lv (.int (x &&& y) :: rest) ans) : gw_V X Wd A nL rv S pc lv (.int y :: .int x :: rest) ans := fun H locs ls hP hS hl => lv_iand F.1 F.2.1 hd (k H locs ls hP hS hl)
theorem gw_ior (F : gw_F X l cc nL ret own Ts rm D cl tys NC ad A) {x y : Int32} (hd : decode cc pc = .ok (.ior, 1)) (k : gw_V X Wd A nL rv S (pc + 1) lv (.int (x ||| y) :: rest) ans) : gw_V X Wd A nL rv S pc lv (.int y :: .int x :: rest) ans := fun H locs ls hP hS hl => lv_ior F.1 F.2.1 hd (k H locs ls hP hS hl)
theorem gw_ixor (F : gw_F X l cc nL ret own Ts rm D cl tys NC ad A) {x y : Int32} (hd : decode cc pc = .ok (.ixor, 1)) (k : gw_V X Wd A nL rv S (pc + 1) lv (.int (x ^^^ y) :: rest) ans) : gw_V X Wd A nL rv S pc lv (.int y :: .int x :: rest) ans := fun H locs ls hP hS hl => lv_ixor F.1 F.2.1 hd (k H locs ls hP hS hl)
theorem gw_ishl (F : gw_F X l cc nL ret own Ts rm D cl tys NC ad A) {x y : Int32} (hd : decode cc pc = .ok (.ishl, 1)) (k : gw_V X Wd A nL rv S (pc + 1) lv (.int (x <<< (y &&& 31)) :: rest) ans) : gw_V X Wd A nL rv S pc lv (.int y :: .int x :: rest) ans := fun H locs ls hP hS hl => lv_ishl F.1 F.2.1 hd (k H locs ls hP hS hl)
theorem gw_ishr (F : gw_F X l cc nL ret own Ts rm D cl tys NC ad A) {x y : Int32} (hd : decode cc pc = .ok (.ishr, 1)) (k : gw_V X Wd A nL rv S (pc + 1) lv (.int (x >>> (y &&& 31)) :: rest) ans) : gw_V X Wd A nL rv S pc lv (.int y :: .int x :: rest) ans := fun H locs ls hP hS hl => lv_ishr F.1 F.2.1 hd (k H locs ls hP hS hl)
theorem gw_idiv (F : gw_F X l cc nL ret own Ts rm D cl tys NC ad A) {x y : Int32} (hd : decode cc pc = .ok (.idiv, 1)) (hne : ¬ y = 0) (k : gw_V X Wd A nL rv S (pc + 1) lv (.int (x / y) :: rest) ans) : gw_V X Wd A nL rv S pc lv (.int y :: .int x :: rest) ans := fun H locs ls hP hS hl => lv_idiv F.1 F.2.1 hd hne (k H locs ls hP hS hl)
theorem gw_irem (F : gw_F X l cc nL ret own Ts rm D cl tys NC ad A) {x y : Int32} (hd : decode cc pc = .ok (.irem, 1)) (hne : ¬ y = 0) (k : gw_V X Wd A nL rv S (pc + 1) lv (.int (x - x / y * y) :: rest) ans) : gw_V X Wd A nL rv S pc lv (.int y :: .int x :: rest) ans := fun H locs ls hP hS hl => lv_irem F.1 F.2.1 hd hne (k H locs ls hP hS hl)
theorem gw_ineg (F : gw_F X l cc nL ret own Ts rm D cl tys NC ad A) {x : Int32} (hd : decode cc pc = .ok (.ineg, 1)) (k : gw_V X Wd A nL rv S (pc + 1) lv (.int (-x) :: rest) ans) : gw_V X Wd A nL rv S pc lv (.int x :: rest) ans := fun H locs ls hP hS hl => lv_ineg F.1 F.2.1 hd (k H locs ls hP hS hl)
theorem gw_ladd (F : gw_F X l cc nL ret own Ts rm D cl tys NC ad A) {x y : Int64} (hd : decode cc pc = .ok (.ladd, 1)) (k : gw_V X Wd A nL rv S (pc + 1) lv (.long (x + y) :: rest) ans) : gw_V X Wd A nL rv S pc lv (.long y :: .long x :: rest) ans := fun H locs ls hP hS hl => lv_ladd F.1 F.2.1 hd (k H locs ls hP hS hl)
theorem gw_lsub (F : gw_F X l cc nL ret own Ts rm D cl tys NC ad A) {x y : Int64} (hd : decode cc pc = .ok (.lsub, 1)) (k : gw_V X Wd A nL rv S (pc + 1) lv (.long (x - y) :: rest) ans) : gw_V X Wd A nL rv S pc lv (.long y :: .long x :: rest) ans := fun H locs ls hP hS hl => lv_lsub F.1 F.2.1 hd (k H locs ls hP hS hl)
theorem gw_lmul (F : gw_F X l cc nL ret own Ts rm D cl tys NC ad A) {x y : Int64} (hd : decode cc pc = .ok (.lmul, 1)) (k : gw_V X Wd A nL rv S (pc + 1) lv (.long (x * y) :: rest) ans) : gw_V X Wd A nL rv S pc lv (.long y :: .long x :: rest) ans := fun H locs ls hP hS hl => lv_lmul F.1 F.2.1 hd (k H locs ls hP hS hl)
theorem gw_land (F : gw_F X l cc nL ret own Ts rm D cl tys NC ad A) {x y : Int64} (hd : decode cc pc = .ok (.land, 1)) (k : gw_V X Wd A nL rv S (pc + 1) lv (.long (x &&& y) :: rest) ans) : gw_V X Wd A nL rv S pc lv (.long y :: .long x :: rest) ans := fun H locs ls hP hS hl => lv_land F.1 F.2.1 hd (k H locs ls hP hS hl)
theorem gw_lor (F : gw_F X l cc nL ret own Ts rm D cl tys NC ad A) {x y : Int64} (hd : decode cc pc = .ok (.lor, 1)) (k : gw_V X Wd A nL rv S (pc + 1) lv (.long (x ||| y) :: rest) ans) : gw_V X Wd A nL rv S pc lv (.long y :: .long x :: rest) ans := fun H locs ls hP hS hl => lv_lor F.1 F.2.1 hd (k H locs ls hP hS hl)
theorem gw_lxor (F : gw_F X l cc nL ret own Ts rm D cl tys NC ad A) {x y : Int64} (hd : decode cc pc = .ok (.lxor, 1)) (k : gw_V X Wd A nL rv S (pc + 1) lv (.long (x ^^^ y) :: rest) ans) : gw_V X Wd A nL rv S pc lv (.long y :: .long x :: rest) ans := fun H locs ls hP hS hl => lv_lxor F.1 F.2.1 hd (k H locs ls hP hS hl)
theorem gw_ldiv (F : gw_F X l cc nL ret own Ts rm D cl tys NC ad A) {x y : Int64} (hd : decode cc pc = .ok (.ldiv, 1)) (hne : ¬ y = 0) (k : gw_V X Wd A nL rv S (pc + 1) lv (.long (x / y) :: rest) ans) : gw_V X Wd A nL rv S pc lv (.long y :: .long x :: rest) ans := fun H locs ls hP hS hl => lv_ldiv F.1 F.2.1 hd hne (k H locs ls hP hS hl)
theorem gw_lrem (F : gw_F X l cc nL ret own Ts rm D cl tys NC ad A) {x y : Int64} (hd : decode cc pc = .ok (.lrem, 1)) (hne : ¬ y = 0) (k : gw_V X Wd A nL rv S (pc + 1) lv (.long (x - x / y * y) :: rest) ans) : gw_V X Wd A nL rv S pc lv (.long y :: .long x :: rest) ans := fun H locs ls hP hS hl => lv_lrem F.1 F.2.1 hd hne (k H locs ls hP hS hl)
theorem gw_lcmp (F : gw_F X l cc nL ret own Ts rm D cl tys NC ad A) {x y : Int64} (hd : decode cc pc = .ok (.lcmp, 1)) (k : gw_V X Wd A nL rv S (pc + 1) lv (.int (lg_cmp x y) :: rest) ans) : gw_V X Wd A nL rv S pc lv (.long y :: .long x :: rest) ans := fun H locs ls hP hS hl => W.lcmp F.1 F.2.1 hd (k H locs ls hP hS hl)
theorem gw_lshl (F : gw_F X l cc nL ret own Ts rm D cl tys NC ad A) {x : Int64} {y : Int32} (hd : decode cc pc = .ok (.lshl, 1)) (k : gw_V X Wd A nL rv S (pc + 1) lv (.long (x <<< (y.toInt64 &&& 63)) :: rest) ans) : gw_V X Wd A nL rv S pc lv (.int y :: .long x :: rest) ans := fun H locs ls hP hS hl => lv_lshl F.1 F.2.1 hd rfl (k H locs ls hP hS hl)
theorem gw_lshr (F : gw_F X l cc nL ret own Ts rm D cl tys NC ad A) {x : Int64} {y : Int32} (hd : decode cc pc = .ok (.lshr, 1)) (k : gw_V X Wd A nL rv S (pc + 1) lv (.long (x >>> (y.toInt64 &&& 63)) :: rest) ans) : gw_V X Wd A nL rv S pc lv (.int y :: .long x :: rest) ans := fun H locs ls hP hS hl => lv_lshr F.1 F.2.1 hd rfl (k H locs ls hP hS hl)
theorem gw_i2l (F : gw_F X l cc nL ret own Ts rm D cl tys NC ad A) {x : Int32} (hd : decode cc pc = .ok (.i2l, 1)) (k : gw_V X Wd A nL rv S (pc + 1) lv (.long x.toInt64 :: rest) ans) : gw_V X Wd A nL rv S pc lv (.int x :: rest) ans := fun H locs ls hP hS hl => lv_i2l F.1 F.2.1 hd rfl (k H locs ls hP hS hl)
theorem gw_l2i (F : gw_F X l cc nL ret own Ts rm D cl tys NC ad A) {x : Int64} (hd : decode cc pc = .ok (.l2i, 1)) (k : gw_V X Wd A nL rv S (pc + 1) lv (.int x.toInt32 :: rest) ans) : gw_V X Wd A nL rv S pc lv (.long x :: rest) ans := fun H locs ls hP hS hl => lv_l2i F.1 F.2.1 hd rfl (k H locs ls hP hS hl)
theorem gw_i2b (F : gw_F X l cc nL ret own Ts rm D cl tys NC ad A) {x : Int32} (hd : decode cc pc = .ok (.i2b, 1)) (k : gw_V X Wd A nL rv S (pc + 1) lv (.int x.toInt8.toInt32 :: rest) ans) : gw_V X Wd A nL rv S pc lv (.int x :: rest) ans := fun H locs ls hP hS hl => lv_i2b F.1 F.2.1 hd rfl (k H locs ls hP hS hl)
theorem gw_i2s (F : gw_F X l cc nL ret own Ts rm D cl tys NC ad A) {x : Int32} (hd : decode cc pc = .ok (.i2s, 1)) (k : gw_V X Wd A nL rv S (pc + 1) lv (.int x.toInt16.toInt32 :: rest) ans) : gw_V X Wd A nL rv S pc lv (.int x :: rest) ans := fun H locs ls hP hS hl => lv_i2s F.1 F.2.1 hd rfl (k H locs ls hP hS hl)
theorem gw_dup (F : gw_F X l cc nL ret own Ts rm D cl tys NC ad A) {va : Value} (hd : decode cc pc = .ok (.dup, 1)) (hva : va.category = 1) (k : gw_V X Wd A nL rv S (pc + 1) lv (va :: va :: rest) ans) : gw_V X Wd A nL rv S pc lv (va :: rest) ans := fun H locs ls hP hS hl => lv_dup F.1 F.2.1 hd hva (k H locs ls hP hS hl)
theorem gw_pop (F : gw_F X l cc nL ret own Ts rm D cl tys NC ad A) {va : Value} (hd : decode cc pc = .ok (.pop, 1)) (hva : va.category = 1) (k : gw_V X Wd A nL rv S (pc + 1) lv rest ans) : gw_V X Wd A nL rv S pc lv (va :: rest) ans := fun H locs ls hP hS hl => lv_pop F.1 F.2.1 hd hva (k H locs ls hP hS hl)
theorem gw_dup_x1 (F : gw_F X l cc nL ret own Ts rm D cl tys NC ad A) {va vb : Value} (hd : decode cc pc = .ok (.dup_x1, 1)) (hva : va.category = 1) (hvb : vb.category = 1) (k : gw_V X Wd A nL rv S (pc + 1) lv (va :: vb :: va :: rest) ans) : gw_V X Wd A nL rv S pc lv (va :: vb :: rest) ans := fun H locs ls hP hS hl => lv_dup_x1 F.1 F.2.1 hd hva hvb (k H locs ls hP hS hl)
theorem gw_dup2 (F : gw_F X l cc nL ret own Ts rm D cl tys NC ad A) {va vb : Value} (hd : decode cc pc = .ok (.dup2, 1)) (hva : va.category = 1) (hvb : vb.category = 1) (k : gw_V X Wd A nL rv S (pc + 1) lv (va :: vb :: va :: vb :: rest) ans) : gw_V X Wd A nL rv S pc lv (va :: vb :: rest) ans := fun H locs ls hP hS hl => lv_dup2_11 F.1 F.2.1 hd hva hvb (k H locs ls hP hS hl)
theorem gw_if_eq (F : gw_F X l cc nL ret own Ts rm D cl tys NC ad A) {x : Int32} {off : Int} {tgt : Nat} (hd : decode cc pc = .ok (.ifCond .eq off, 3)) (ht : (pc : Int) + off = (tgt : Int)) (kt : x = 0 → gw_V X Wd A nL rv S tgt lv rest ans) (kf : ¬ x = 0 → gw_V X Wd A nL rv S (pc + 3) lv rest ans) : gw_V X Wd A nL rv S pc lv (.int x :: rest) ans := fun H locs ls hP hS hl => lv_if_eq F.1 F.2.1 hd ht (fun h => kt h H locs ls hP hS hl) (fun h => kf h H locs ls hP hS hl)
theorem gw_if_eqS (F : gw_F X l cc nL ret own Ts rm D cl tys NC ad A) {x : Int32} {off : Int} {tgt : Nat} {a b : α × gw_S} (hd : decode cc pc = .ok (.ifCond .eq off, 3)) (ht : (pc : Int) + off = (tgt : Int)) (kt : x = 0 → gw_V X Wd A nL rv S tgt lv rest a) (kf : ¬ x = 0 → gw_V X Wd A nL rv S (pc + 3) lv rest b) : gw_V X Wd A nL rv S pc lv (.int x :: rest) (if x = 0 then a else b) := gw_if_eq F hd ht (fun h => gw_ans (if_pos h) (kt h)) (fun h => gw_ans (if_neg h) (kf h))
theorem gw_if_eqT (F : gw_F X l cc nL ret own Ts rm D cl tys NC ad A) {x : Int32} {off : Int} {tgt : Nat} (hd : decode cc pc = .ok (.ifCond .eq off, 3)) (ht : (pc : Int) + off = (tgt : Int)) (hc : x = 0) (kt : gw_V X Wd A nL rv S tgt lv rest ans) : gw_V X Wd A nL rv S pc lv (.int x :: rest) ans := gw_if_eq F hd ht (fun _ => kt) (fun h => absurd hc h)
theorem gw_if_eqN (F : gw_F X l cc nL ret own Ts rm D cl tys NC ad A) {x : Int32} {off : Int} (tgt : Nat) (hd : decode cc pc = .ok (.ifCond .eq off, 3)) (ht : (pc : Int) + off = (tgt : Int)) (hc : ¬ x = 0) (kf : gw_V X Wd A nL rv S (pc + 3) lv rest ans) : gw_V X Wd A nL rv S pc lv (.int x :: rest) ans := gw_if_eq F hd ht (fun h => absurd h hc) (fun _ => kf)
theorem gw_if_ne (F : gw_F X l cc nL ret own Ts rm D cl tys NC ad A) {x : Int32} {off : Int} {tgt : Nat} (hd : decode cc pc = .ok (.ifCond .ne off, 3)) (ht : (pc : Int) + off = (tgt : Int)) (kt : ¬ x = 0 → gw_V X Wd A nL rv S tgt lv rest ans) (kf : x = 0 → gw_V X Wd A nL rv S (pc + 3) lv rest ans) : gw_V X Wd A nL rv S pc lv (.int x :: rest) ans := fun H locs ls hP hS hl => lv_if_ne F.1 F.2.1 hd ht (fun h => kt h H locs ls hP hS hl) (fun h => kf h H locs ls hP hS hl)
theorem gw_if_neS (F : gw_F X l cc nL ret own Ts rm D cl tys NC ad A) {x : Int32} {off : Int} {tgt : Nat} {a b : α × gw_S} (hd : decode cc pc = .ok (.ifCond .ne off, 3)) (ht : (pc : Int) + off = (tgt : Int)) (kt : ¬ x = 0 → gw_V X Wd A nL rv S tgt lv rest b) (kf : x = 0 → gw_V X Wd A nL rv S (pc + 3) lv rest a) : gw_V X Wd A nL rv S pc lv (.int x :: rest) (if x = 0 then a else b) := gw_if_ne F hd ht (fun h => gw_ans (if_neg h) (kt h)) (fun h => gw_ans (if_pos h) (kf h))
theorem gw_if_neT (F : gw_F X l cc nL ret own Ts rm D cl tys NC ad A) {x : Int32} {off : Int} {tgt : Nat} (hd : decode cc pc = .ok (.ifCond .ne off, 3)) (ht : (pc : Int) + off = (tgt : Int)) (hc : ¬ x = 0) (kt : gw_V X Wd A nL rv S tgt lv rest ans) : gw_V X Wd A nL rv S pc lv (.int x :: rest) ans := gw_if_ne F hd ht (fun _ => kt) (fun h => absurd h hc)
theorem gw_if_neN (F : gw_F X l cc nL ret own Ts rm D cl tys NC ad A) {x : Int32} {off : Int} (tgt : Nat) (hd : decode cc pc = .ok (.ifCond .ne off, 3)) (ht : (pc : Int) + off = (tgt : Int)) (hc : x = 0) (kf : gw_V X Wd A nL rv S (pc + 3) lv rest ans) : gw_V X Wd A nL rv S pc lv (.int x :: rest) ans := gw_if_ne F hd ht (fun h => absurd hc h) (fun _ => kf)
theorem gw_if_lt (F : gw_F X l cc nL ret own Ts rm D cl tys NC ad A) {x : Int32} {off : Int} {tgt : Nat} (hd : decode cc pc = .ok (.ifCond .lt off, 3)) (ht : (pc : Int) + off = (tgt : Int)) (kt : x < 0 → gw_V X Wd A nL rv S tgt lv rest ans) (kf : ¬ x < 0 → gw_V X Wd A nL rv S (pc + 3) lv rest ans) : gw_V X Wd A nL rv S pc lv (.int x :: rest) ans := fun H locs ls hP hS hl => lv_if_lt F.1 F.2.1 hd ht (fun h => kt h H locs ls hP hS hl) (fun h => kf h H locs ls hP hS hl)
theorem gw_if_ltS (F : gw_F X l cc nL ret own Ts rm D cl tys NC ad A) {x : Int32} {off : Int} {tgt : Nat} {a b : α × gw_S} (hd : decode cc pc = .ok (.ifCond .lt off, 3)) (ht : (pc : Int) + off = (tgt : Int)) (kt : x < 0 → gw_V X Wd A nL rv S tgt lv rest a) (kf : ¬ x < 0 → gw_V X Wd A nL rv S (pc + 3) lv rest b) : gw_V X Wd A nL rv S pc lv (.int x :: rest) (if x < 0 then a else b) := gw_if_lt F hd ht (fun h => gw_ans (if_pos h) (kt h)) (fun h => gw_ans (if_neg h) (kf h))
theorem gw_if_ltT (F : gw_F X l cc nL ret own Ts rm D cl tys NC ad A) {x : Int32} {off : Int} {tgt : Nat} (hd : decode cc pc = .ok (.ifCond .lt off, 3)) (ht : (pc : Int) + off = (tgt : Int)) (hc : x < 0) (kt : gw_V X Wd A nL rv S tgt lv rest ans) : gw_V X Wd A nL rv S pc lv (.int x :: rest) ans := gw_if_lt F hd ht (fun _ => kt) (fun h => absurd hc h)
theorem gw_if_ltN (F : gw_F X l cc nL ret own Ts rm D cl tys NC ad A) {x : Int32} {off : Int} (tgt : Nat) (hd : decode cc pc = .ok (.ifCond .lt off, 3)) (ht : (pc : Int) + off = (tgt : Int)) (hc : ¬ x < 0) (kf : gw_V X Wd A nL rv S (pc + 3) lv rest ans) : gw_V X Wd A nL rv S pc lv (.int x :: rest) ans := gw_if_lt F hd ht (fun h => absurd h hc) (fun _ => kf)
theorem gw_if_ge (F : gw_F X l cc nL ret own Ts rm D cl tys NC ad A) {x : Int32} {off : Int} {tgt : Nat} (hd : decode cc pc = .ok (.ifCond .ge off, 3)) (ht : (pc : Int) + off = (tgt : Int)) (kt : 0 ≤ x → gw_V X Wd A nL rv S tgt lv rest ans) (kf : ¬ 0 ≤ x → gw_V X Wd A nL rv S (pc + 3) lv rest ans) : gw_V X Wd A nL rv S pc lv (.int x :: rest) ans := fun H locs ls hP hS hl => lv_if_ge F.1 F.2.1 hd ht (fun h => kt h H locs ls hP hS hl) (fun h => kf h H locs ls hP hS hl)
theorem gw_if_geS (F : gw_F X l cc nL ret own Ts rm D cl tys NC ad A) {x : Int32} {off : Int} {tgt : Nat} {a b : α × gw_S} (hd : decode cc pc = .ok (.ifCond .ge off, 3)) (ht : (pc : Int) + off = (tgt : Int)) (kt : 0 ≤ x → gw_V X Wd A nL rv S tgt lv rest a) (kf : ¬ 0 ≤ x → gw_V X Wd A nL rv S (pc + 3) lv rest b) : gw_V X Wd A nL rv S pc lv (.int x :: rest) (if 0 ≤ x then a else b) := gw_if_ge F hd ht (fun h => gw_ans (if_pos h) (kt h)) (fun h => gw_ans (if_neg h) (kf h))
theorem gw_if_geT (F : gw_F X l cc nL ret own Ts rm D cl tys NC ad A) {x : Int32} {off : Int} {tgt : Nat} (hd : decode cc pc = .ok (.ifCond .ge off, 3)) (ht : (pc : Int) + off = (tgt : Int)) (hc : 0 ≤ x) (kt : gw_V X Wd A nL rv S tgt lv rest ans) : gw_V X Wd A nL rv S pc lv (.int x :: rest) ans := gw_if_ge F hd ht (fun _ => kt) (fun h => absurd hc h)
theorem gw_if_geN (F : gw_F X l cc nL ret own Ts rm D cl tys NC ad A) {x : Int32} {off : Int} (tgt : Nat) (hd : decode cc pc = .ok (.ifCond .ge off, 3)) (ht : (pc : Int) + off = (tgt : Int)) (hc : ¬ 0 ≤ x) (kf : gw_V X Wd A nL rv S (pc + 3) lv rest ans) : gw_V X Wd A nL rv S pc lv (.int x :: rest) ans := gw_if_ge F hd ht (fun h => absurd h hc) (fun _ => kf)
theorem gw_if_gt (F : gw_F X l cc nL ret own Ts rm D cl tys NC ad A) {x : Int32} {off : Int} {tgt : Nat} (hd : decode cc pc = .ok (.ifCond .gt off, 3)) (ht : (pc : Int) + off = (tgt : Int)) (kt : 0 < x → gw_V X Wd A nL rv S tgt lv rest ans) (kf : ¬ 0 < x → gw_V X Wd A nL rv S (pc + 3) lv rest ans) : gw_V X Wd A nL rv S pc lv (.int x :: rest) ans := fun H locs ls hP hS hl => lv_if_gt F.1 F.2.1 hd ht (fun h => kt h H locs ls hP hS hl) (fun h => kf h H locs ls hP hS hl)
theorem gw_if_gtS (F : gw_F X l cc nL ret own Ts rm D cl tys NC ad A) {x : Int32} {off : Int} {tgt : Nat} {a b : α × gw_S} (hd : decode cc pc = .ok (.ifCond .gt off, 3)) (ht : (pc : Int) + off = (tgt : Int)) (kt : 0 < x → gw_V X Wd A nL rv S tgt lv rest a) (kf : ¬ 0 < x → gw_V X Wd A nL rv S (pc + 3) lv rest b) : gw_V X Wd A nL rv S pc lv (.int x :: rest) (if 0 < x then a else b) := gw_if_gt F hd ht (fun h => gw_ans (if_pos h) (kt h)) (fun h => gw_ans (if_neg h) (kf h))
theorem gw_if_gtT (F : gw_F X l cc nL ret own Ts rm D cl tys NC ad A) {x : Int32} {off : Int} {tgt : Nat} (hd : decode cc pc = .ok (.ifCond .gt off, 3)) (ht : (pc : Int) + off = (tgt : Int)) (hc : 0 < x) (kt : gw_V X Wd A nL rv S tgt lv rest ans) : gw_V X Wd A nL rv S pc lv (.int x :: rest) ans := gw_if_gt F hd ht (fun _ => kt) (fun h => absurd hc h)
theorem gw_if_gtN (F : gw_F X l cc nL ret own Ts rm D cl tys NC ad A) {x : Int32} {off : Int} (tgt : Nat) (hd : decode cc pc = .ok (.ifCond .gt off, 3)) (ht : (pc : Int) + off = (tgt : Int)) (hc : ¬ 0 < x) (kf : gw_V X Wd A nL rv S (pc + 3) lv rest ans) : gw_V X Wd A nL rv S pc lv (.int x :: rest) ans := gw_if_gt F hd ht (fun h => absurd h hc) (fun _ => kf)
theorem gw_if_le (F : gw_F X l cc nL ret own Ts rm D cl tys NC ad A) {x : Int32} {off : Int} {tgt : Nat} (hd : decode cc pc = .ok (.ifCond .le off, 3)) (ht : (pc : Int) + off = (tgt : Int)) (kt : x ≤ 0 → gw_V X Wd A nL rv S tgt lv rest ans) (kf : ¬ x ≤ 0 → gw_V X Wd A nL rv S (pc + 3) lv rest ans) : gw_V X Wd A nL rv S pc lv (.int x :: rest) ans := fun H locs ls hP hS hl => lv_if_le F.1 F.2.1 hd ht (fun h => kt h H locs ls hP hS hl) (fun h => kf h H locs ls hP hS hl)
theorem gw_if_leS (F : gw_F X l cc nL ret own Ts rm D cl tys NC ad A) {x : Int32} {off : Int} {tgt : Nat} {a b : α × gw_S} (hd : decode cc pc = .ok (.ifCond .le off, 3)) (ht : (pc : Int) + off = (tgt : Int)) (kt : x ≤ 0 → gw_V X Wd A nL rv S tgt lv rest a) (kf : ¬ x ≤ 0 → gw_V X Wd A nL rv S (pc + 3) lv rest b) : gw_V X Wd A nL rv S pc lv (.int x :: rest) (if x ≤ 0 then a else b) := gw_if_le F hd ht (fun h => gw_ans (if_pos h) (kt h)) (fun h => gw_ans (if_neg h) (kf h))
theorem gw_if_leT (F : gw_F X l cc nL ret own Ts rm D cl tys NC ad A) {x : Int32} {off : Int} {tgt : Nat} (hd : decode cc pc = .ok (.ifCond .le off, 3)) (ht : (pc : Int) + off = (tgt : Int)) (hc : x ≤ 0) (kt : gw_V X Wd A nL rv S tgt lv rest ans) : gw_V X Wd A nL rv S pc lv (.int x :: rest) ans := gw_if_le F hd ht (fun _ => kt) (fun h => absurd hc h)
theorem gw_if_leN (F : gw_F X l cc nL ret own Ts rm D cl tys NC ad A) {x : Int32} {off : Int} (tgt : Nat) (hd : decode cc pc = .ok (.ifCond .le off, 3)) (ht : (pc : Int) + off = (tgt : Int)) (hc : ¬ x ≤ 0) (kf : gw_V X Wd A nL rv S (pc + 3) lv rest ans) : gw_V X Wd A nL rv S pc lv (.int x :: rest) ans := gw_if_le F hd ht (fun h => absurd h hc) (fun _ => kf)
theorem gw_icmp_eq (F : gw_F X l cc nL ret own Ts rm D cl tys NC ad A) {x y : Int32} {off : Int} {tgt : Nat} (hd : decode cc pc = .ok (.if_icmp .eq off, 3)) (ht : (pc : Int) + off = (tgt : Int)) (kt : x = y → gw_V X Wd A nL rv S tgt lv rest ans) (kf : ¬ x = y → gw_V X Wd A nL rv S (pc + 3) lv rest ans) : gw_V X Wd A nL rv S pc lv (.int y :: .int x :: rest) ans := fun H locs ls hP hS hl => lv_icmp_eq F.1 F.2.1 hd ht (fun h => kt h H locs ls hP hS hl) (fun h => kf h H locs ls hP hS hl)
theorem gw_icmp_eqS (F : gw_F X l cc nL ret own Ts rm D cl tys NC ad A) {x y : Int32} {off : Int} {tgt : Nat} {a b : α × gw_S} (hd : decode cc pc = .ok (.if_icmp .eq off, 3)) (ht : (pc : Int) + off = (tgt : Int)) (kt : x = y → gw_V X Wd A nL rv S tgt lv rest a) (kf : ¬ x = y → gw_V X Wd A nL rv S (pc + 3) lv rest b) : gw_V X Wd A nL rv S pc lv (.int y :: .int x :: rest) (if x = y then a else b) := gw_icmp_eq F hd ht (fun h => gw_ans (if_pos h) (kt h)) (fun h => gw_ans (if_neg h) (kf h))
theorem gw_icmp_eqT (F : gw_F X l cc nL ret own Ts rm D cl tys NC ad A) {x y : Int32} {off : Int} {tgt : Nat} (hd : decode cc pc = .ok (.if_icmp .eq off, 3)) (ht : (pc : Int) + off = (tgt : Int)) (hc : x = y) (kt : gw_V X Wd A nL rv S tgt lv rest ans) : gw_V X Wd A nL rv S pc lv (.int y :: .int x :: rest) ans := gw_icmp_eq F hd ht (fun _ => kt) (fun h => absurd hc h)
theorem gw_icmp_eqN (F : gw_F X l cc nL ret own Ts rm D cl tys NC ad A) {x y : Int32} {off : Int} (tgt : Nat) (hd : decode cc pc = .ok (.if_icmp .eq off, 3)) (ht : (pc : Int) + off = (tgt : Int)) (hc : ¬ x = y) (kf : gw_V X Wd A nL rv S (pc + 3) lv rest ans) : gw_V X Wd A nL rv S pc lv (.int y :: .int x :: rest) ans := gw_icmp_eq F hd ht (fun h => absurd h hc) (fun _ => kf)
theorem gw_icmp_ne (F : gw_F X l cc nL ret own Ts rm D cl tys NC ad A) {x y : Int32} {off : Int} {tgt : Nat} (hd : decode cc pc = .ok (.if_icmp .ne off, 3)) (ht : (pc : Int) + off = (tgt : Int)) (kt : ¬ x = y → gw_V X Wd A nL rv S tgt lv rest ans) (kf : x = y → gw_V X Wd A nL rv S (pc + 3) lv rest ans) : gw_V X Wd A nL rv S pc lv (.int y :: .int x :: rest) ans := fun H locs ls hP hS hl => lv_icmp_ne F.1 F.2.1 hd ht (fun h => kt h H locs ls hP hS hl) (fun h => kf h H locs ls hP hS hl)
theorem gw_icmp_neS (F : gw_F X l cc nL ret own Ts rm D cl tys NC ad A) {x y : Int32} {off : Int} {tgt : Nat} {a b : α × gw_S} (hd : decode cc pc = .ok (.if_icmp .ne off, 3)) (ht : (pc : Int) + off = (tgt : Int)) (kt : ¬ x = y → gw_V X Wd A nL rv S tgt lv rest b) (kf : x = y → gw_V X Wd A nL rv S (pc + 3) lv rest a) : gw_V X Wd A nL rv S pc lv (.int y :: .int x :: rest) (if x = y then a else b) := gw_icmp_ne F hd ht (fun h => gw_ans (if_neg h) (kt h)) (fun h => gw_ans (if_pos h) (kf h))
theorem gw_icmp_neT (F : gw_F X l cc nL ret own Ts rm D cl tys NC ad A) {x y : Int32} {off : Int} {tgt : Nat} (hd : decode cc pc = .ok (.if_icmp .ne off, 3)) (ht : (pc : Int) + off = (tgt : Int)) (hc : ¬ x = y) (kt : gw_V X Wd A nL rv S tgt lv rest ans) : gw_V X Wd A nL rv S pc lv (.int y :: .int x :: rest) ans := gw_icmp_ne F hd ht (fun _ => kt) (fun h => absurd h hc)
theorem gw_icmp_neN (F : gw_F X l cc nL ret own Ts rm D cl tys NC ad A) {x y : Int32} {off : Int} (tgt : Nat) (hd : decode cc pc = .ok (.if_icmp .ne off, 3)) (ht : (pc : Int) + off = (tgt : Int)) (hc : x = y) (kf : gw_V X Wd A nL rv S (pc + 3) lv rest ans) : gw_V X Wd A nL rv S pc lv (.int y :: .int x :: rest) ans := gw_icmp_ne F hd ht (fun h => absurd hc h) (fun _ => kf)
theorem gw_icmp_lt (F : gw_F X l cc nL ret own Ts rm D cl tys NC ad A) {x y : Int32} {off : Int} {tgt : Nat} (hd : decode cc pc = .ok (.if_icmp .lt off, 3)) (ht : (pc : Int) + off = (tgt : Int)) (kt : x < y → gw_V X Wd A nL rv S tgt lv rest ans) (kf : ¬ x < y → gw_V X Wd A nL rv S (pc + 3) lv rest ans) : gw_V X Wd A nL rv S pc lv (.int y :: .int x :: rest) ans := fun H locs ls hP hS hl => lv_icmp_lt F.1 F.2.1 hd ht (fun h => kt h H locs ls hP hS hl) (fun h => kf h H locs ls hP hS hl)
theorem gw_icmp_ltS (F : gw_F X l cc nL ret own Ts rm D cl tys NC ad A) {x y : Int32} {off : Int} {tgt : Nat} {a b : α × gw_S} (hd : decode cc pc = .ok (.if_icmp .lt off, 3)) (ht : (pc : Int) + off = (tgt : Int)) (kt : x < y → gw_V X Wd A nL rv S tgt lv rest a) (kf : ¬ x < y → gw_V X Wd A nL rv S (pc + 3) lv rest b) : gw_V X Wd A nL rv S pc lv (.int y :: .int x :: rest) (if x < y then a else b) := gw_icmp_lt F hd ht (fun h => gw_ans (if_pos h) (kt h)) (fun h => gw_ans (if_neg h) (kf h))
theorem gw_icmp_ltT (F : gw_F X l cc nL ret own Ts rm D cl tys NC ad A) {x y : Int32} {off : Int} {tgt : Nat} (hd : decode cc pc = .ok (.if_icmp .lt off, 3)) (ht : (pc : Int) + off = (tgt : Int)) (hc : x < y) (kt : gw_V X Wd A nL rv S tgt lv rest ans) : gw_V X Wd A nL rv S pc lv (.int y :: .int x :: rest) ans := gw_icmp_lt F hd ht (fun _ => kt) (fun h => absurd hc h)
theorem gw_icmp_ltN (F : gw_F X l cc nL ret own Ts rm D cl tys NC ad A) {x y : Int32} {off : Int} (tgt : Nat) (hd : decode cc pc = .ok (.if_icmp .lt off, 3)) (ht : (pc : Int) + off = (tgt : Int)) (hc : ¬ x < y) (kf : gw_V X Wd A nL rv S (pc + 3) lv rest ans) : gw_V X Wd A nL rv S pc lv (.int y :: .int x :: rest) ans := gw_icmp_lt F hd ht (fun h => absurd h hc) (fun _ => kf)
theorem gw_icmp_ge (F : gw_F X l cc nL ret own Ts rm D cl tys NC ad A) {x y : Int32} {off : Int} {tgt : Nat} (hd : decode cc pc = .ok (.if_icmp .ge off, 3)) (ht : (pc : Int) + off = (tgt : Int)) (kt : y ≤ x → gw_V X Wd A nL rv S tgt lv rest ans) (kf : ¬ y ≤ x → gw_V X Wd A nL rv S (pc + 3) lv rest ans) : gw_V X Wd A nL rv S pc lv (.int y :: .int x :: rest) ans := fun H locs ls hP hS hl => lv_icmp_ge F.1 F.2.1 hd ht (fun h => kt h H locs ls hP hS hl) (fun h => kf h H locs ls hP hS hl)
theorem gw_icmp_geS (F : gw_F X l cc nL ret own Ts rm D cl tys NC ad A) {x y : Int32} {off : Int} {tgt : Nat} {a b : α × gw_S} (hd : decode cc pc = .ok (.if_icmp .ge off, 3)) (ht : (pc : Int) + off = (tgt : Int)) (kt : y ≤ x → gw_V X Wd A nL rv S tgt lv rest a) (kf : ¬ y ≤ x → gw_V X Wd A nL rv S (pc + 3) lv rest b) : gw_V X Wd A nL rv S pc lv (.int y :: .int x :: rest) (if y ≤ x then a else b) := gw_icmp_ge F hd ht (fun h => gw_ans (if_pos h) (kt h)) (fun h => gw_ans (if_neg h) (kf h))
theorem gw_icmp_geT (F : gw_F X l cc nL ret own Ts rm D cl tys NC ad A) {x y : Int32} {off : Int} {tgt : Nat} (hd : decode cc pc = .ok (.if_icmp .ge off, 3)) (ht : (pc : Int) + off = (tgt : Int)) (hc : y ≤ x) (kt : gw_V X Wd A nL rv S tgt lv rest ans) : gw_V X Wd A nL rv S pc lv (.int y :: .int x :: rest) ans := gw_icmp_ge F hd ht (fun _ => kt) (fun h => absurd hc h)
theorem gw_icmp_geN (F : gw_F X l cc nL ret own Ts rm D cl tys NC ad A) {x y : Int32} {off : Int} (tgt : Nat) (hd : decode cc pc = .ok (.if_icmp .ge off, 3)) (ht : (pc : Int) + off = (tgt : Int)) (hc : ¬ y ≤ x) (kf : gw_V X Wd A nL rv S (pc + 3) lv rest ans) : gw_V X Wd A nL rv S pc lv (.int y :: .int x :: rest) ans := gw_icmp_ge F hd ht (fun h => absurd h hc) (fun _ => kf)
theorem gw_icmp_gt (F : gw_F X l cc nL ret own Ts rm D cl tys NC ad A) {x y : Int32} {off : Int} {tgt : Nat} (hd : decode cc pc = .ok (.if_icmp .gt off, 3)) (ht : (pc : Int) + off = (tgt : Int)) (kt : y < x → gw_V X Wd A nL rv S tgt lv rest ans) (kf : ¬ y < x → gw_V X Wd A nL rv S (pc + 3) lv rest ans) : gw_V X Wd A nL rv S pc lv (.int y :: .int x :: rest) ans := fun H locs ls hP hS hl => lv_icmp_gt F.1 F.2.1 hd ht (fun h => kt h H locs ls hP hS hl) (fun h => kf h H locs ls hP hS hl)
theorem gw_icmp_gtS (F : gw_F X l cc nL ret own Ts rm D cl tys NC ad A) {x y : Int32} {off : Int} {tgt : Nat} {a b : α × gw_S} (hd : decode cc pc = .ok (.if_icmp .gt off, 3)) (ht : (pc : Int) + off = (tgt : Int)) (kt : y < x → gw_V X Wd A nL rv S tgt lv rest a) (kf : ¬ y < x → gw_V X Wd A nL rv S (pc + 3) lv rest b) : gw_V X Wd A nL rv S pc lv (.int y :: .int x :: rest) (if y < x then a else b) := gw_icmp_gt F hd ht (fun h => gw_ans (if_pos h) (kt h)) (fun h => gw_ans (if_neg h) (kf h))
theorem gw_icmp_gtT (F : gw_F X l cc nL ret own Ts rm D cl tys NC ad A) {x y : Int32} {off : Int} {tgt : Nat} (hd : decode cc pc = .ok (.if_icmp .gt off, 3)) (ht : (pc : Int) + off = (tgt : Int)) (hc : y < x) (kt : gw_V X Wd A nL rv S tgt lv rest ans) : gw_V X Wd A nL rv S pc lv (.int y :: .int x :: rest) ans := gw_icmp_gt F hd ht (fun _ => kt) (fun h => absurd hc h)
theorem gw_icmp_gtN (F : gw_F X l cc nL ret own Ts rm D cl tys NC ad A) {x y : Int32} {off : Int} (tgt : Nat) (hd : decode cc pc = .ok (.if_icmp .gt off, 3)) (ht : (pc : Int) + off = (tgt : Int)) (hc : ¬ y < x) (kf : gw_V X Wd A nL rv S (pc + 3) lv rest ans) : gw_V X Wd A nL rv S pc lv (.int y :: .int x :: rest) ans := gw_icmp_gt F hd ht (fun h => absurd h hc) (fun _ => kf)
theorem gw_icmp_le (F : gw_F X l cc nL ret own Ts rm D cl tys NC ad A) {x y : Int32} {off : Int} {tgt : Nat} (hd : decode cc pc = .ok (.if_icmp .le off, 3)) (ht : (pc : Int) + off = (tgt : Int)) (kt : x ≤ y → gw_V X Wd A nL rv S tgt lv rest ans) (kf : ¬ x ≤ y → gw_V X Wd A nL rv S (pc + 3) lv rest ans) : gw_V X Wd A nL rv S pc lv (.int y :: .int x :: rest) ans := fun H locs ls hP hS hl => lv_icmp_le F.1 F.2.1 hd ht (fun h => kt h H locs ls hP hS hl) (fun h => kf h H locs ls hP hS hl)
theorem gw_icmp_leS (F : gw_F X l cc nL ret own Ts rm D cl tys NC ad A) {x y : Int32} {off : Int} {tgt : Nat} {a b : α × gw_S} (hd : decode cc pc = .ok (.if_icmp .le off, 3)) (ht : (pc : Int) + off = (tgt : Int)) (kt : x ≤ y → gw_V X Wd A nL rv S tgt lv rest a) (kf : ¬ x ≤ y → gw_V X Wd A nL rv S (pc + 3) lv rest b) : gw_V X Wd A nL rv S pc lv (.int y :: .int x :: rest) (if x ≤ y then a else b) := gw_icmp_le F hd ht (fun h => gw_ans (if_pos h) (kt h)) (fun h => gw_ans (if_neg h) (kf h))
theorem gw_icmp_leT (F : gw_F X l cc nL ret own Ts rm D cl tys NC ad A) {x y : Int32} {off : Int} {tgt : Nat} (hd : decode cc pc = .ok (.if_icmp .le off, 3)) (ht : (pc : Int) + off = (tgt : Int)) (hc : x ≤ y) (kt : gw_V X Wd A nL rv S tgt lv rest ans) : gw_V X Wd A nL rv S pc lv (.int y :: .int x :: rest) ans := gw_icmp_le F hd ht (fun _ => kt) (fun h => absurd hc h)
theorem gw_icmp_leN (F : gw_F X l cc nL ret own Ts rm D cl tys NC ad A) {x y : Int32} {off : Int} (tgt : Nat) (hd : decode cc pc = .ok (.if_icmp .le off, 3)) (ht : (pc : Int) + off = (tgt : Int)) (hc : ¬ x ≤ y) (kf : gw_V X Wd A nL rv S (pc + 3) lv rest ans) : gw_V X Wd A nL rv S pc lv (.int y :: .int x :: rest) ans := gw_icmp_le F hd ht (fun h => absurd h hc) (fun _ => kf)
theorem gw_goto (F : gw_F X l cc nL ret own Ts rm D cl tys NC ad A) {off : Int} {tgt : Nat} (hd : decode cc pc = .ok (.goto off, 3)) (ht : (pc : Int) + off = (tgt : Int)) (k : gw_V X Wd A nL rv S tgt lv rest ans) : gw_V X Wd A nL rv S pc lv rest ans := fun H locs ls hP hS hl => lv_goto F.1 F.2.1 hd ht (k H locs ls hP hS hl)
theorem gw_ifnull (F : gw_F X l cc nL ret own Ts rm D cl tys NC ad A) {x : Nat} {off : Int} (hd : decode cc pc = .ok (.ifnull off, 3)) (k : gw_V X Wd A nL rv S (pc + 3) lv rest ans) : gw_V X Wd A nL rv S pc lv (.ref x :: rest) ans := fun H locs ls hP hS hl => lv_ifnull F.1 F.2.1 hd (k H locs ls hP hS hl)
theorem gw_ifnullN (F : gw_F X l cc nL ret own Ts rm D cl tys NC ad A) {off : Int} {tgt : Nat} (hd : decode cc pc = .ok (.ifnull off, 3)) (ht : (pc : Int) + off = (tgt : Int)) (k : gw_V X Wd A nL rv S tgt lv rest ans) : gw_V X Wd A nL rv S pc lv (.null :: rest) ans := fun H locs ls hP hS hl => lv_ifnullN F.1 F.2.1 hd ht (k H locs ls hP hS hl)
theorem gw_tableOut (F : gw_F X l cc nL ret own Ts rm D cl tys NC ad A) {dflt lo hi : Int} {offs : Array Int} {len : Nat} {x : Int32} {tgt : Nat} (hd : decode cc pc = .ok (.tableswitch dflt lo hi offs, len)) (h : x.toInt < lo ∨ hi < x.toInt) (ht : (pc : Int) + dflt = (tgt : Int)) (k : gw_V X Wd A nL rv S tgt lv rest ans) : gw_V X Wd A nL rv S pc lv (.int x :: rest) ans := fun H locs ls hP hS hl => lv_tableOut F.1 F.2.1 hd h ht (k H locs ls hP hS hl)
theorem gw_tableIn (F : gw_F X l cc nL ret own Ts rm D cl tys NC ad A) {dflt lo hi : Int} {offs : Array Int} {len : Nat} {x y : Int32} {off : Int} {tgt : Nat} (hd : decode cc pc = .ok (.tableswitch dflt lo hi offs, len)) (hx : x = y) (h1 : ¬ y.toInt < lo) (h2 : ¬ hi < y.toInt) (ho : offs[(y.toInt - lo).toNat]? = some off) (ht : (pc : Int) + off = (tgt : Int)) (k : gw_V X Wd A nL rv S tgt lv rest ans) : gw_V X Wd A nL rv S pc lv (.int x :: rest) ans := fun H locs ls hP hS hl => lv_tableIn F.1 F.2.1 hd (hx ▸ h1) (hx ▸ h2) (hx ▸ ho) ht (k H locs ls hP hS hl)
theorem gw_ne {x y : Int32} (h : ¬ x = y) : ¬ x.toInt = y.toInt := fun q => h (Int32.toInt_inj.mp q)
theorem gw_ldc (F : gw_F X l cc nL ret own Ts rm D cl tys NC ad A) {index : Nat} {v : Int32} (hc : Cond.constant own index v ∈ Ts) (hd : decode cc pc = .ok (.ldc index, 2)) (k : gw_V X Wd A nL rv S (pc + 2) lv (.int v :: rest) ans) : gw_V X Wd A nL rv S pc lv rest ans := fun H locs ls hP hS hl => lv_ldc F.1 F.2.1 F.2.2.2.1 (F.2.2.2.2.1 _ hc) hd (k H locs ls hP hS hl)
theorem gw_ldc2 (F : gw_F X l cc nL ret own Ts rm D cl tys NC ad A) {index : Nat} {v : Int64} (hc : Cond.constantLong own index v ∈ Ts) (hd : decode cc pc = .ok (.ldc2_w index, 3)) (k : gw_V X Wd A nL rv S (pc + 3) lv (.long v :: rest) ans) : gw_V X Wd A nL rv S pc lv rest ans := fun H locs ls hP hS hl => lv_ldc2 F.1 F.2.1 F.2.2.2.1 (F.2.2.2.2.1 _ hc) hd (k H locs ls hP hS hl)
theorem gw_iret (F : gw_F X l cc nL (some .int) own Ts rm D cl tys NC ad A) {x : Int32} (hd : decode cc pc = .ok (.ireturn, 1)) : gw_V X Wd A nL gw_rI S pc lv [.int x] (x, S) := fun H locs ls hP hS hl =>
  W.iret F.1 F.2.1 F.2.2.2.2.2.2.1 (fun t ht _ => ⟨⟨rfl, by rw [ht]; exact hP⟩, hS.F ht⟩) hS.2.2 hd F.2.2.2.2.2.2.2.1
theorem gw_zret {ty : FieldType} (F : gw_F X l cc nL (some ty) own Ts rm D cl tys NC ad A) {x : Int32} (hd : decode cc pc = .ok (.ireturn, 1)) (hn : narrow ty (.int x) = .int x) : gw_V X Wd A nL gw_rI S pc lv [.int x] (x, S) := fun H locs ls hP hS hl =>
  W.zret F.1 F.2.1 F.2.2.2.2.2.2.1 hn (fun t ht _ => ⟨⟨rfl, by rw [ht]; exact hP⟩, hS.F ht⟩) hS.2.2 hd F.2.2.2.2.2.2.2.1
theorem gw_lret (F : gw_F X l cc nL (some .long) own Ts rm D cl tys NC ad A) {x : Int64} (hd : decode cc pc = .ok (.lreturn, 1)) : gw_V X Wd A nL gw_rJ S pc lv [.long x] (x, S) := fun H locs ls hP hS hl =>
  W.lret F.1 F.2.1 F.2.2.2.2.2.2.1 (fun t ht _ => ⟨⟨rfl, by rw [ht]; exact hP⟩, hS.F ht⟩) hS.2.2 hd F.2.2.2.2.2.2.2.1
theorem gw_vret (F : gw_F X l cc nL (none) own Ts rm D cl tys NC ad A) (hd : decode cc pc = .ok (.return_, 1)) : gw_V X Wd A nL gw_rV S pc lv [] ((), S) := fun H locs ls hP hS hl =>
  W.vret F.1 F.2.1 F.2.2.2.2.2.2.1 (fun t ht _ => ⟨⟨rfl, by rw [ht]; exact hP⟩, hS.F ht⟩) hS.2.2 hd F.2.2.2.2.2.2.2.1
theorem gw_aret {rt : FieldType} (F : gw_F X l cc nL (some rt) own Ts rm D cl tys NC ad A) {x : Nat} (hrt : (∃ n, rt = .object n) ∨ ∃ t, rt = .array t) (hd : decode cc pc = .ok (.areturn, 1)) : gw_V X Wd A nL (gw_rA ad) S pc lv [.ref (ad x)] (some x, S) := fun H locs ls hP hS hl =>
  W.aret F.1 F.2.1 F.2.2.2.2.2.2.1 hrt (Or.inr ⟨_, rfl⟩) (fun t ht _ => ⟨⟨rfl, by rw [ht]; exact hP⟩, hS.F ht⟩) hS.2.2 hd F.2.2.2.2.2.2.2.1
theorem gw_aretN {rt : FieldType} (F : gw_F X l cc nL (some rt) own Ts rm D cl tys NC ad A) (hrt : (∃ n, rt = .object n) ∨ ∃ t, rt = .array t) (hd : decode cc pc = .ok (.areturn, 1)) : gw_V X Wd A nL (gw_rA ad) S pc lv [.null] (none, S) := fun H locs ls hP hS hl =>
  W.aret F.1 F.2.1 F.2.2.2.2.2.2.1 hrt (Or.inl rfl) (fun t ht _ => ⟨⟨rfl, by rw [ht]; exact hP⟩, hS.F ht⟩) hS.2.2 hd F.2.2.2.2.2.2.2.1
end GW
section GX
variable {α : Type} {X : gx_M} {l : Launch} {cc : ByteArray} {nL : Nat} {ret : Option FieldType} {own : String} {Ts : List Cond} {rm : Room} {D : va_G} {cl : List vw_C} {tys : List (ClassId × FieldType)} {NC : Nat} {ad : Nat → Nat} {A : Nat → Prop} {E : Nat → (Nat → Int32) → va_E} {rv : α → Option Value} {S : gw_S} {pc : Nat} {lv : List (Nat × Value)} {rest : List Value} {ans : α × gw_S}
theorem gw_FD (F : gw_F X l cc nL ret own Ts rm D cl tys NC ad A) : va_D A (gw_W NC ad E S) := gw_D F.2.2.2.2.2.2.2.2.2.2.1 (fun i hi => by rw [F.2.2.2.2.2.2.2.2.2.2.2]; exact Or.inl ⟨i, hi, rfl⟩)
theorem gw_get (F : gw_F X l cc nL ret own Ts rm D cl tys NC ad A) {ref C : String} {T : u_T} {N ci index : Nat} (hin : ∀ w ∈ u_ws C T N, w ∈ Ts) (i : Nat) (hi : i < NC) {fs : List Value} (he : E i (S i) = .inr (ci, fs)) (hc : cl[ci]? = some (C, T, N)) (k : Nat) (hk : k < N) (hlink : Cond.fieldLink own index ref (T k).2.1 (T k).2.2.1 ∈ Ts) (hsame : (T k).1 = ref) {v : Value} (hv : fs[k]? = some v) (hd : decode cc pc = .ok (.getfield index, 3)) (kk : gw_V X (gw_P D cl NC ad E) A nL rv S (pc + 3) lv (v :: rest) ans) : gw_V X (gw_P D cl NC ad E) A nL rv S pc lv (.ref (ad i) :: rest) ans := fun H locs ls hP hS hl =>
  va_get F.1 F.2.1 F.2.2.2.2.1 hin F.2.2.2.1 F.2.2.2.2.2.2.2.2.2.1 hP i ((gw_get0 hi).trans (by rw [he])) hc k hk (F.2.2.2.2.1 _ hlink) (fun x hx => by rw [← hsame]; exact hx) hv hd (kk H locs ls hP hS hl)
theorem gw_getN (F : gw_F X l cc nL ret own Ts rm D cl tys NC ad A) {ref C : String} {host : String} {T : u_T} {N ci index : Nat} (hin : ∀ w ∈ u_ws C T N, w ∈ Ts) (i : Nat) (hi : i < NC) {fs : List Value} (he : E i (S i) = .inr (ci, fs)) (hc : cl[ci]? = some (C, T, N)) (k : Nat) (hk : k < N) (hlink : Cond.fieldLinkNest own index ref (T k).2.1 (T k).2.2.1 host ∈ Ts) (hsame : (T k).1 = ref) {v : Value} (hv : fs[k]? = some v) (hd : decode cc pc = .ok (.getfield index, 3)) (kk : gw_V X (gw_P D cl NC ad E) A nL rv S (pc + 3) lv (v :: rest) ans) : gw_V X (gw_P D cl NC ad E) A nL rv S pc lv (.ref (ad i) :: rest) ans := fun H locs ls hP hS hl =>
  va_getN F.1 F.2.1 F.2.2.2.2.1 hin F.2.2.2.1 F.2.2.2.2.2.2.2.2.2.1 hP i ((gw_get0 hi).trans (by rw [he])) hc k hk (F.2.2.2.2.1 _ hlink) (fun x hx => by rw [← hsame]; exact hx) hv hd (kk H locs ls hP hS hl)
theorem gw_put (F : gw_F X l cc nL ret own Ts rm D cl tys NC ad A) {ref C : String} {T : u_T} {N ci index : Nat} (hin : ∀ w ∈ u_ws C T N, w ∈ Ts) (ty0 : Nat → FieldType) (hty : ∀ k, k < N → parseFieldDescriptor (T k).2.2.1 = some (ty0 k)) (hnm : ∀ a, a < N → ∀ b, b < N → a ≠ b → (T a).2.1 ≠ (T b).2.1) (i : Nat) (hi : i < NC) {fs : List Value} (he : E i (S i) = .inr (ci, fs)) (hc : cl[ci]? = some (C, T, N)) (k : Nat) (hk : k < N) (hlink : Cond.fieldLink own index ref (T k).2.1 (T k).2.2.1 ∈ Ts) (hsame : (T k).1 = ref) (hfin : (T k).2.2.2 = false) {ty : FieldType} {x : Int32} (hdt : parseFieldDescriptor (T k).2.2.1 = some ty) (hn : narrow ty (.int x) = .int x) (hfit : fits ty (.int x) = true) (hl : k < fs.length) (hE : E i (upd (S i) k x) = .inr (ci, fs.set k (.int x))) (hd : decode cc pc = .ok (.putfield index, 3)) (kk : gw_V X (gw_P D cl NC ad E) A nL rv (gw_u S i k x) (pc + 3) lv rest ans) : gw_V X (gw_P D cl NC ad E) A nL rv S pc lv (.int x :: .ref (ad i) :: rest) ans := fun H locs ls hP hS hl0 =>
  va_put F.1 F.2.1 F.2.2.2.2.1 hin ty0 hty hnm F.2.2.2.1 F.2.2.2.2.2.2.2.2.2.1 hP (gw_FD F) hS i ((gw_get0 hi).trans (by rw [he])) hc k hk (F.2.2.2.2.1 _ hlink) (fun x hx => by rw [← hsame]; exact hx) hfin hdt hn hfit hl hd (fun H1 locs1 hP1 _ hS1 => kk H1 locs1 ls (by rw [← hE, gw_set hi] at hP1; exact hP1) hS1 hl0)
theorem gw_putN (F : gw_F X l cc nL ret own Ts rm D cl tys NC ad A) {ref C : String} {host : String} {T : u_T} {N ci index : Nat} (hin : ∀ w ∈ u_ws C T N, w ∈ Ts) (ty0 : Nat → FieldType) (hty : ∀ k, k < N → parseFieldDescriptor (T k).2.2.1 = some (ty0 k)) (hnm : ∀ a, a < N → ∀ b, b < N → a ≠ b → (T a).2.1 ≠ (T b).2.1) (i : Nat) (hi : i < NC) {fs : List Value} (he : E i (S i) = .inr (ci, fs)) (hc : cl[ci]? = some (C, T, N)) (k : Nat) (hk : k < N) (hlink : Cond.fieldLinkNest own index ref (T k).2.1 (T k).2.2.1 host ∈ Ts) (hsame : (T k).1 = ref) (hfin : (T k).2.2.2 = false) {ty : FieldType} {x : Int32} (hdt : parseFieldDescriptor (T k).2.2.1 = some ty) (hn : narrow ty (.int x) = .int x) (hfit : fits ty (.int x) = true) (hl : k < fs.length) (hE : E i (upd (S i) k x) = .inr (ci, fs.set k (.int x))) (hd : decode cc pc = .ok (.putfield index, 3)) (kk : gw_V X (gw_P D cl NC ad E) A nL rv (gw_u S i k x) (pc + 3) lv rest ans) : gw_V X (gw_P D cl NC ad E) A nL rv S pc lv (.int x :: .ref (ad i) :: rest) ans := fun H locs ls hP hS hl0 =>
  va_putN F.1 F.2.1 F.2.2.2.2.1 hin ty0 hty hnm F.2.2.2.1 F.2.2.2.2.2.2.2.2.2.1 hP (gw_FD F) hS i ((gw_get0 hi).trans (by rw [he])) hc k hk (F.2.2.2.2.1 _ hlink) (fun x hx => by rw [← hsame]; exact hx) hfin hdt hn hfit hl hd (fun H1 locs1 hP1 _ hS1 => kk H1 locs1 ls (by rw [← hE, gw_set hi] at hP1; exact hP1) hS1 hl0)
theorem gw_iald (F : gw_F X l cc nL ret own Ts rm D cl tys NC ad A) (i t0 : Nat) (hi : i < NC) {cA : ClassId} {n : Nat} {f : Nat → Int32} (he : E i (S i) = .inl (cA, n, .inl f)) (ht : tys[t0]? = some (cA, .int)) {j : Int32} (hin : vp_in j n) (hd : decode cc pc = .ok (.iaload, 1)) (kk : gw_V X (gw_P D cl NC ad E) A nL rv S (pc + 1) lv (.int (f j.toNatClampNeg) :: rest) ans) : gw_V X (gw_P D cl NC ad E) A nL rv S pc lv (.int j :: .ref (ad i) :: rest) ans := fun H locs ls hP hS hl =>
  va_iald F.1 F.2.1 F.2.2.2.2.2.2.2.2.2.1 hP i t0 ((gw_get0 hi).trans (by rw [he])) ht hin hd (kk H locs ls hP hS hl)
theorem gw_iast (F : gw_F X l cc nL ret own Ts rm D cl tys NC ad A) (i t0 : Nat) (hi : i < NC) {cA : ClassId} {n : Nat} {f : Nat → Int32} (he : E i (S i) = .inl (cA, n, .inl f)) (ht : tys[t0]? = some (cA, .int)) {j x : Int32} (hin : vp_in j n) (hE : E i (upd (S i) j.toNatClampNeg x) = .inl (cA, n, .inl (upd f j.toNatClampNeg x))) (hd : decode cc pc = .ok (.iastore, 1)) (kk : gw_V X (gw_P D cl NC ad E) A nL rv (gw_u S i j.toNatClampNeg x) (pc + 1) lv rest ans) : gw_V X (gw_P D cl NC ad E) A nL rv S pc lv (.int x :: .int j :: .ref (ad i) :: rest) ans := fun H locs ls hP hS hl =>
  va_iast F.1 F.2.1 F.2.2.2.2.2.2.2.2.2.1 hP (gw_FD F) hS i t0 ((gw_get0 hi).trans (by rw [he])) ht hin hd (fun H1 locs1 hP1 _ hS1 => kk H1 locs1 ls (by rw [← hE, gw_set hi] at hP1; exact hP1) hS1 hl)
theorem gw_bald (F : gw_F X l cc nL ret own Ts rm D cl tys NC ad A) (i t0 : Nat) (hi : i < NC) {cA : ClassId} {n : Nat} {f : Nat → Int32} (he : E i (S i) = .inl (cA, n, .inl f)) (ht : tys[t0]? = some (cA, .byte)) {j : Int32} (hin : vp_in j n) (hd : decode cc pc = .ok (.baload, 1)) (kk : gw_V X (gw_P D cl NC ad E) A nL rv S (pc + 1) lv (.int (f j.toNatClampNeg) :: rest) ans) : gw_V X (gw_P D cl NC ad E) A nL rv S pc lv (.int j :: .ref (ad i) :: rest) ans := fun H locs ls hP hS hl =>
  va_bald F.1 F.2.1 F.2.2.2.2.2.2.2.2.2.1 hP i t0 ((gw_get0 hi).trans (by rw [he])) ht hin hd (kk H locs ls hP hS hl)
theorem gw_bast (F : gw_F X l cc nL ret own Ts rm D cl tys NC ad A) (i t0 : Nat) (hi : i < NC) {cA : ClassId} {n : Nat} {f : Nat → Int32} (he : E i (S i) = .inl (cA, n, .inl f)) (ht : tys[t0]? = some (cA, .byte)) {j x : Int32} (hin : vp_in j n) (hE : E i (upd (S i) j.toNatClampNeg (vp_nar .byte x)) = .inl (cA, n, .inl (upd f j.toNatClampNeg (vp_nar .byte x)))) (hd : decode cc pc = .ok (.bastore, 1)) (kk : gw_V X (gw_P D cl NC ad E) A nL rv (gw_u S i j.toNatClampNeg (vp_nar .byte x)) (pc + 1) lv rest ans) : gw_V X (gw_P D cl NC ad E) A nL rv S pc lv (.int x :: .int j :: .ref (ad i) :: rest) ans := fun H locs ls hP hS hl =>
  va_bast F.1 F.2.1 F.2.2.2.2.2.2.2.2.2.1 hP (gw_FD F) hS i t0 ((gw_get0 hi).trans (by rw [he])) ht hin hd (fun H1 locs1 hP1 _ hS1 => kk H1 locs1 ls (by rw [← hE, gw_set hi] at hP1; exact hP1) hS1 hl)
theorem gw_zald (F : gw_F X l cc nL ret own Ts rm D cl tys NC ad A) (i t0 : Nat) (hi : i < NC) {cA : ClassId} {n : Nat} {f : Nat → Int32} (he : E i (S i) = .inl (cA, n, .inl f)) (ht : tys[t0]? = some (cA, .boolean)) {j : Int32} (hin : vp_in j n) (hd : decode cc pc = .ok (.baload, 1)) (kk : gw_V X (gw_P D cl NC ad E) A nL rv S (pc + 1) lv (.int (f j.toNatClampNeg) :: rest) ans) : gw_V X (gw_P D cl NC ad E) A nL rv S pc lv (.int j :: .ref (ad i) :: rest) ans := fun H locs ls hP hS hl =>
  va_zald F.1 F.2.1 F.2.2.2.2.2.2.2.2.2.1 hP i t0 ((gw_get0 hi).trans (by rw [he])) ht hin hd (kk H locs ls hP hS hl)
theorem gw_zast (F : gw_F X l cc nL ret own Ts rm D cl tys NC ad A) (i t0 : Nat) (hi : i < NC) {cA : ClassId} {n : Nat} {f : Nat → Int32} (he : E i (S i) = .inl (cA, n, .inl f)) (ht : tys[t0]? = some (cA, .boolean)) {j x : Int32} (hin : vp_in j n) (hE : E i (upd (S i) j.toNatClampNeg (vp_nar .boolean x)) = .inl (cA, n, .inl (upd f j.toNatClampNeg (vp_nar .boolean x)))) (hd : decode cc pc = .ok (.bastore, 1)) (kk : gw_V X (gw_P D cl NC ad E) A nL rv (gw_u S i j.toNatClampNeg (vp_nar .boolean x)) (pc + 1) lv rest ans) : gw_V X (gw_P D cl NC ad E) A nL rv S pc lv (.int x :: .int j :: .ref (ad i) :: rest) ans := fun H locs ls hP hS hl =>
  va_zast F.1 F.2.1 F.2.2.2.2.2.2.2.2.2.1 hP (gw_FD F) hS i t0 ((gw_get0 hi).trans (by rw [he])) ht hin hd (fun H1 locs1 hP1 _ hS1 => kk H1 locs1 ls (by rw [← hE, gw_set hi] at hP1; exact hP1) hS1 hl)
theorem gw_aald (F : gw_F X l cc nL ret own Ts rm D cl tys NC ad A) (i t0 : Nat) (hi : i < NC) {cA : ClassId} {C : String} {n : Nat} {f : Nat → Option Nat} (he : E i (S i) = .inl (cA, n, .inr (.inr (.inr (.inr f))))) (ht : tys[t0]? = some (cA, .object C)) {j : Int32} {a : Nat} (hin : vp_in j n) (ha : f j.toNatClampNeg = some a) (hd : decode cc pc = .ok (.aaload, 1)) (kk : gw_V X (gw_P D cl NC ad E) A nL rv S (pc + 1) lv (.ref a :: rest) ans) : gw_V X (gw_P D cl NC ad E) A nL rv S pc lv (.int j :: .ref (ad i) :: rest) ans := fun H locs ls hP hS hl =>
  va_aldq F.1 F.2.1 F.2.2.2.2.2.2.2.2.2.1 hP i t0 ((gw_get0 hi).trans (by rw [he])) ht hin hd (by rw [ha]; exact kk H locs ls hP hS hl)
theorem gw_alen (F : gw_F X l cc nL ret own Ts rm D cl tys NC ad A) (i t0 : Nat) (hi : i < NC) {cA : ClassId} {x : vp_A} {ty : FieldType} (he : E i (S i) = .inl (cA, x)) (ht : tys[t0]? = some (cA, ty)) {v : Int32} (hv : Int32.ofNat x.1 = v) (hd : decode cc pc = .ok (.arraylength, 1)) (kk : gw_V X (gw_P D cl NC ad E) A nL rv S (pc + 1) lv (.int v :: rest) ans) : gw_V X (gw_P D cl NC ad E) A nL rv S pc lv (.ref (ad i) :: rest) ans := fun H locs ls hP hS hl =>
  va_alen F.1 F.2.1 F.2.2.2.2.2.2.2.2.2.1 hP i t0 ((gw_get0 hi).trans (by rw [he])) ht hv hd (kk H locs ls hP hS hl)
theorem gw_copy (F : gw_F X l cc nL ret own Ts rm D cl tys NC ad A) (i t0 : Nat) (hi : i < NC) {cA : ClassId} {n index : Nat} {f : Nat → Int32} (he : E i (S i) = .inl (cA, n, .inl f)) {ty : FieldType} (ht : tys[t0]? = some (cA, ty)) (hprim : refKind ty = false) {sp dp m : Int32} (h1 : ¬ sp < 0) (h2 : ¬ dp < 0) (h3 : ¬ m < 0) (h4 : sp.toNatClampNeg + m.toNatClampNeg ≤ n) (h5 : dp.toNatClampNeg + m.toNatClampNeg ≤ n) (hfit : ∀ q, q < m.toNatClampNeg → fits ty (.int (f (sp.toNatClampNeg + q))) = true) (hl : Cond.methodLink own index arraycopyName ∈ Ts) (hnat : Cond.native arraycopyName ∈ Ts) (hst : Cond.static arraycopyName ∈ Ts) (hini : Cond.initialized "java/lang/System" ∈ Ts) (hf : 1 ≤ rm.frames) (hlo : (rest.map fun v => v.category).sum + (nativeFrameWords "java/lang/System" "arraycopy" 5 + 11) ≤ rm.locals) (hE : E i (va_cpy f f sp.toNatClampNeg dp.toNatClampNeg m.toNatClampNeg) = .inl (cA, n, .inl (va_cpy f f sp.toNatClampNeg dp.toNatClampNeg m.toNatClampNeg))) (hd : decode cc pc = .ok (.invokestatic index, 3)) (kk : gw_V X (gw_P D cl NC ad E) A nL rv (gw_a S i (va_cpy f f sp.toNatClampNeg dp.toNatClampNeg m.toNatClampNeg)) (pc + 3) lv rest ans) : gw_V X (gw_P D cl NC ad E) A nL rv S pc lv (.int m :: .int dp :: .ref (ad i) :: .int sp :: .ref (ad i) :: rest) ans := fun H locs ls hP hS hlv =>
  va_copyi F.1 F.2.1 (F.2.2.1.trans hlv.1.symm) F.2.2.2.1 (F.2.2.2.2.1 _ hl) (F.2.2.2.2.1 _ hnat) (F.2.2.2.2.1 _ hst) (F.2.2.2.2.1 _ hini) F.2.2.2.2.2.2.2.2.2.1 hP (gw_FD F) hS i i t0 t0 ((gw_get0 hi).trans (by rw [he])) ((gw_get0 hi).trans (by rw [he])) ht ht hprim h1 h2 h3 h4 h5 hfit (by rw [F.2.2.2.2.2.1]; exact hf) (by rw [F.2.2.2.2.2.1]; exact hlo) hd (fun H1 locs1 hP1 _ hS1 => kk H1 locs1 ls (by rw [← hE, gw_set hi] at hP1; exact hP1) hS1 hlv)
end GX
section GC
variable {α β : Type} {X : gx_M} {l : Launch} {cc : ByteArray} {nL : Nat} {ret : Option FieldType} {own : String} {Ts : List Cond} {rm : Room} {D : va_G} {cl : List vw_C} {tys : List (ClassId × FieldType)} {NC : Nat} {ad : Nat → Nat} {A : Nat → Prop} {E : Nat → (Nat → Int32) → va_E} {rv : α → Option Value} {rw' : β → Option Value} {S : gw_S} {pc : Nat} {lv : List (Nat × Value)} {rest st0 : List Value} {ans : α × gw_S} {a : β × gw_S}
theorem gw_ran (F : gw_F X l cc nL ret own Ts rm D cl tys NC ad A) {av : Array Value} (hr : ∀ (H : Heap) (locs : List Loc) (ls : Array Slot), gw_P D cl NC ad E S H → lv_has ls nL lv → va_Run X.1 X.2.1 X.2.2.1 X.2.2.2.1 X.2.2.2.2.1 X.2.2.2.2.2.1 X.2.2.2.2.2.2.1 X.2.2.2.2.2.2.2.1 X.2.2.2.2.2.2.2.2.1 X.2.2.2.2.2.2.2.2.2 H locs 0 0 0 0 (F0 X.2.2.2.2.2.1 pc ls st0) rest (gw_Q rw' (gw_P D cl NC ad E) (gw_A NC ad H.size) a av) (gw_A NC ad H.size))
    (kk : gw_V X (gw_P D cl NC ad E) A nL rv a.2 (pc + 3) lv ((rw' a.1).toList ++ rest) ans) : gw_V X (gw_P D cl NC ad E) A nL rv S pc lv st0 ans := by
  intro H locs ls hP hS hl T hT hX
  obtain ⟨v, st, t, T', L, h0, hX', hL, hT', hvm, ⟨⟨hoc, hW⟩, hF⟩, hgo⟩ := hr H locs ls hP hl T hT hX
  have hA := F.2.2.2.2.2.2.2.2.2.2.2
  have hsub : ∀ q, gw_A NC ad H.size q → A q := by
    intro q hq
    rw [hA]
    rcases hq with h | h
    · exact Or.inl h
    · exact Or.inr (Nat.le_trans hS.1 h)
  have hv : v = rw' a.1 := by injection hoc
  subst hv
  have hS' : va_S A X.2.2.2.2.1.heap t.heap (locs ++ L) := by
    refine ⟨?_, ?_, ?_⟩
    · have h1 := hF.1
      rw [h0] at h1
      exact Nat.le_trans hS.1 h1
    · intro q hq hn
      have h1 := hF.2 q (by rw [h0]; exact Nat.lt_of_lt_of_le hq hS.1) (fun h => hn (hsub q h))
      rw [h1, h0]
      exact hS.2.1 q hq hn
    · intro x hx
      rcases List.mem_append.mp hx with h | h
      · exact hS.2.2 x h
      · exact hsub _ (hL x h)
  obtain ⟨u, hu, hq⟩ := kk t.heap (locs ++ L) ls hW hS' hl T' hT' hX'
  exact ⟨u, hgo u hu, hq⟩
theorem gw_pre {av : List Value} (F : gw_F X l cc nL ret own Ts rm D cl tys NC ad A) {H : Heap} (hP : gw_P D cl NC ad E S H) : PreS X.2.2.2.2.1 H (gw_Pc Ts D cl tys (gw_P D cl NC ad E) H.size S av) av :=
  ⟨fun a U g mk q => ⟨q.1, q.2.1, q.2.2.1, va_K.moved (u := U) (U := U.calling g mk a) (Vm.Alike.refl U.vm) q.2.2.2.1, fun w hw hn => va_Nw.same (u := U) (U := U.calling g mk a) (gw_isN_tab hn) rfl (q.2.2.2.2 w hw hn)⟩, fun U hU hW => ⟨rfl, by rw [hU], by rw [hU]; exact hP, va_K.moved hW.alike F.2.2.2.2.2.2.2.2.2.1, fun w hw hn => gw_isN_warm hn hW (va_Nw.of (gw_isN_tab hn) (F.2.2.2.2.1 w hw))⟩⟩
theorem gw_preV {As : List Value} (F : gw_F X l cc nL ret own Ts rm D cl tys NC ad A) {H : Heap} (hP : gw_P D cl NC ad E S H) {i ci : Nat} {r : vw_C} {fs : List Value} (hi : i < NC) (he : E i (S i) = .inr (ci, fs)) (hc : cl[ci]? = some r) : PreV X.2.2.2.2.1 H r.1 (ad i) (gw_Pc Ts D cl tys (gw_P D cl NC ad E) H.size S (.ref (ad i) :: As)) As :=
  ⟨(gw_pre (av := .ref (ad i) :: As) F hP).1, va_recv F.2.2.2.2.2.2.2.2.2.1 hP hc ((gw_get0 hi).trans (by rw [he])), (gw_pre (av := .ref (ad i) :: As) F hP).2⟩
def gw_cw (Tb : List Cond) (y : MethodName) (bytes : ByteArray) (maxL : Nat) (rt : Option FieldType) (n : Nat) : Prop := Cond.code y bytes maxL rt ∈ Tb ∧ Cond.initialized y.cls ∈ Tb ∧ y.cls ≠ "java/lang/invoke/MethodHandle" ∧ y.cls ≠ "java/lang/invoke/VarHandle" ∧ (parseMethodDescriptor y.desc).map (fun d => d.parameters.length) = some n
def gw_cv (Tb : List Cond) (y : MethodName) : Prop := Cond.instanceMethod y ∈ Tb ∧ Cond.selects y.cls y y ∈ Tb
theorem gw_gI {Tb : List Cond} {y : MethodName} {bytes : ByteArray} {maxL : Nat} {rt : Option FieldType} (hw : Cond.code y bytes maxL rt ∈ Tb) : GoodIn Tb (Cond.code y bytes maxL rt :: Tb.filter goodWord) := by
  intro x hx
  rcases List.mem_cons.mp hx with rfl | h
  · exact ⟨hw, Or.inl rfl⟩
  · exact ⟨(List.mem_filter.mp h).1, good_of_word (List.mem_filter.mp h).2⟩
theorem gw_hR {d' d maxL : Nat} (h1 : d' < d) (h2 : maxL ≤ 21) : (gw_rm d').frames + 1 ≤ (gw_rm d).frames ∧ 8 + (maxL + 11) + (gw_rm d').locals ≤ (gw_rm d).locals := by
  show d' + 1 ≤ d ∧ 8 + (maxL + 11) + 40 * d' ≤ 40 * d
  omega
theorem gw_cV (F : gw_F X l cc nL ret own Ts rm D cl tys NC ad A) {y : MethodName} {bytes : ByteArray} {maxL n index d' d : Nat} {rt : Option FieldType} {As : List Value} {i ci : Nat} {r : vw_C} {fs : List Value} (hM : gw_M l y bytes maxL rt Ts (gw_rm d') D cl tys NC ad E rw' (.ref (ad i) :: As) S a) (hw : gw_cw Ts y bytes maxL rt n) (hv : gw_cv Ts y) (hl : Cond.methodLink own index y ∈ Ts) (hrm : rm = gw_rm d) (hd1 : d' < d) (hd2 : maxL ≤ 21) (hi : i < NC) (he : E i (S i) = .inr (ci, fs)) (hcl : cl[ci]? = some r) (hC : y.cls = r.1) (hn : As.length = n) (hst : st0 = As.reverse ++ .ref (ad i) :: rest) (hroom : (rest.map fun v => v.category).sum ≤ 8) (hd : decode cc pc = .ok (.invokevirtual index, 3))
    (kk : gw_V X (gw_P D cl NC ad E) A nL rv a.2 (pc + 3) lv ((rw' a.1).toList ++ rest) ans) : gw_V X (gw_P D cl NC ad E) A nL rv S pc lv st0 ans := by
  have F0 := F
  obtain ⟨p, l1, e, R, s, m, args, below, meth, c⟩ := X
  obtain ⟨hx, hb, hml, hown, hts, hR0, hret, hlk, hl0, hK, hJ, hA⟩ := F
  dsimp only at hx hb hml hown hts hR0 hret hlk hl0 hK hA
  subst hrm; subst hR0; subst hl0
  have hR := gw_hR (d' := d') (d := d) (maxL := maxL) hd1 hd2
  exact gw_ran F0 (fun H locs ls hP hlv => va_runV (Ts := Ts) ⟨hx, hb, hml, hown, hts⟩ (hM H.size) ⟨callB_of n hts (gw_gI hw.1) rfl rfl rfl (hts _ hw.2.1) (hts _ hl) hw.2.2 hR, hts _ hv.1, hC ▸ hts _ hv.2⟩ (gw_preV F0 hP hi he hcl) rfl hn hlv.1 hst (lv_room hroom) hd ⟨Nat.zero_le _, Nat.zero_le _⟩) kk
theorem gw_cVN (F : gw_F X l cc nL ret own Ts rm D cl tys NC ad A) {y : MethodName} {bytes : ByteArray} {maxL n index d' d : Nat} {rt : Option FieldType} {As : List Value} {host : String} {i ci : Nat} {r : vw_C} {fs : List Value} (hM : gw_M l y bytes maxL rt Ts (gw_rm d') D cl tys NC ad E rw' (.ref (ad i) :: As) S a) (hw : gw_cw Ts y bytes maxL rt n) (hv : gw_cv Ts y) (hl : Cond.methodLinkNest own index y host ∈ Ts) (hrm : rm = gw_rm d) (hd1 : d' < d) (hd2 : maxL ≤ 21) (hi : i < NC) (he : E i (S i) = .inr (ci, fs)) (hcl : cl[ci]? = some r) (hC : y.cls = r.1) (hn : As.length = n) (hst : st0 = As.reverse ++ .ref (ad i) :: rest) (hroom : (rest.map fun v => v.category).sum ≤ 8) (hd : decode cc pc = .ok (.invokevirtual index, 3))
    (kk : gw_V X (gw_P D cl NC ad E) A nL rv a.2 (pc + 3) lv ((rw' a.1).toList ++ rest) ans) : gw_V X (gw_P D cl NC ad E) A nL rv S pc lv st0 ans := by
  have F0 := F
  obtain ⟨p, l1, e, R, s, m, args, below, meth, c⟩ := X
  obtain ⟨hx, hb, hml, hown, hts, hR0, hret, hlk, hl0, hK, hJ, hA⟩ := F
  dsimp only at hx hb hml hown hts hR0 hret hlk hl0 hK hA
  subst hrm; subst hR0; subst hl0
  have hR := gw_hR (d' := d') (d := d) (maxL := maxL) hd1 hd2
  exact gw_ran F0 (fun H locs ls hP hlv => va_runVN (Ts := Ts) ⟨hx, hb, hml, hown, hts⟩ (hM H.size) ⟨va_cnB n hts (gw_gI hw.1) rfl rfl rfl (va_tabs rfl rfl (hts _ hl)) (hts _ hw.2.1) hw.2.2 hR, hts _ hv.1, hC ▸ hts _ hv.2⟩ (gw_preV F0 hP hi he hcl) rfl hn hlv.1 hst (lv_room hroom) hd ⟨Nat.zero_le _, Nat.zero_le _⟩) kk
theorem gw_cS (F : gw_F X l cc nL ret own Ts rm D cl tys NC ad A) {y : MethodName} {bytes : ByteArray} {maxL n index d' d : Nat} {rt : Option FieldType} {As : List Value} (hM : gw_M l y bytes maxL rt Ts (gw_rm d') D cl tys NC ad E rw' As S a) (hw : gw_cw Ts y bytes maxL rt n) (hv : Cond.static y ∈ Ts) (hl : Cond.methodLink own index y ∈ Ts) (hrm : rm = gw_rm d) (hd1 : d' < d) (hd2 : maxL ≤ 21) (hn : As.length = n) (hst : st0 = As.reverse ++ rest) (hroom : (rest.map fun v => v.category).sum ≤ 8) (hd : decode cc pc = .ok (.invokestatic index, 3))
    (kk : gw_V X (gw_P D cl NC ad E) A nL rv a.2 (pc + 3) lv ((rw' a.1).toList ++ rest) ans) : gw_V X (gw_P D cl NC ad E) A nL rv S pc lv st0 ans := by
  have F0 := F
  obtain ⟨p, l1, e, R, s, m, args, below, meth, c⟩ := X
  obtain ⟨hx, hb, hml, hown, hts, hR0, hret, hlk, hl0, hK, hJ, hA⟩ := F
  dsimp only at hx hb hml hown hts hR0 hret hlk hl0 hK hA
  subst hrm; subst hR0; subst hl0
  have hR := gw_hR (d' := d') (d := d) (maxL := maxL) hd1 hd2
  exact gw_ran F0 (fun H locs ls hP hlv => va_runS (Ts := Ts) ⟨hx, hb, hml, hown, hts⟩ (hM H.size) ⟨callB_of n hts (gw_gI hw.1) rfl rfl rfl (hts _ hw.2.1) (hts _ hl) hw.2.2 hR, hts _ hv⟩ (gw_pre F0 hP) rfl hn hlv.1 hst (lv_room hroom) hd ⟨Nat.zero_le _, Nat.zero_le _⟩) kk
theorem gw_cSN (F : gw_F X l cc nL ret own Ts rm D cl tys NC ad A) {y : MethodName} {bytes : ByteArray} {maxL n index d' d : Nat} {rt : Option FieldType} {As : List Value} {host : String} (hM : gw_M l y bytes maxL rt Ts (gw_rm d') D cl tys NC ad E rw' As S a) (hw : gw_cw Ts y bytes maxL rt n) (hv : Cond.static y ∈ Ts) (hl : Cond.methodLinkNest own index y host ∈ Ts) (hrm : rm = gw_rm d) (hd1 : d' < d) (hd2 : maxL ≤ 21) (hn : As.length = n) (hst : st0 = As.reverse ++ rest) (hroom : (rest.map fun v => v.category).sum ≤ 8) (hd : decode cc pc = .ok (.invokestatic index, 3))
    (kk : gw_V X (gw_P D cl NC ad E) A nL rv a.2 (pc + 3) lv ((rw' a.1).toList ++ rest) ans) : gw_V X (gw_P D cl NC ad E) A nL rv S pc lv st0 ans := by
  have F0 := F
  obtain ⟨p, l1, e, R, s, m, args, below, meth, c⟩ := X
  obtain ⟨hx, hb, hml, hown, hts, hR0, hret, hlk, hl0, hK, hJ, hA⟩ := F
  dsimp only at hx hb hml hown hts hR0 hret hlk hl0 hK hA
  subst hrm; subst hR0; subst hl0
  have hR := gw_hR (d' := d') (d := d) (maxL := maxL) hd1 hd2
  exact gw_ran F0 (fun H locs ls hP hlv => va_runSN (Ts := Ts) ⟨hx, hb, hml, hown, hts⟩ (hM H.size) ⟨va_cnB n hts (gw_gI hw.1) rfl rfl rfl (va_tabs rfl rfl (hts _ hl)) (hts _ hw.2.1) hw.2.2 hR, hts _ hv, trivial⟩ (gw_pre F0 hP) rfl hn hlv.1 hst (lv_room hroom) hd ⟨Nat.zero_le _, Nat.zero_le _⟩) kk
end GC
theorem po_if {γ : Type} {Φ : γ → Prop} {c : Prop} [Decidable c] {a b : γ} (ka : c → Φ a) (kb : ¬ c → Φ b) : Φ (if c then a else b) := by
  by_cases h : c
  · rw [if_pos h]; exact ka h
  · rw [if_neg h]; exact kb h
theorem po_n {α γ : Type} {Φ : γ → Prop} {x : α} {K : α → γ} (k : ∀ y, y = x → Φ (K y)) : Φ (gw_n x K) := k x rfl
theorem po_b {α β γ : Type} {Φ : γ → Prop} {a : α × β} {K : α → β → γ} {P : α → β → Prop} (hp : P a.1 a.2) (k : ∀ r U, P r U → Φ (K r U)) : Φ (gw_b a K) := k a.1 a.2 hp
theorem gw_inlt {j : Int32} {n : Nat} (h : vp_in j n) : j.toNatClampNeg < n := Nat.not_le.mp fun q => h (Or.inr q)
theorem gw_inE {v x : Int32} {n : Nat} (e : v = x) (h : vp_in x n) : vp_in v n := e ▸ h
theorem gw_and1023 (x : Int32) : vp_in (x &&& (1023 : Int32)) 1024 := pk_andIn x 10 (by decide) (by decide)
theorem gw_and255 (x : Int32) : vp_in (x &&& (255 : Int32)) 256 := pk_andIn x 8 (by decide) (by decide)
theorem gw_and31 (x : Int32) : vp_in (x &&& (31 : Int32)) 32 := pk_andIn x 5 (by decide) (by decide)
theorem gw_and15 (x : Int32) : vp_in (x &&& (15 : Int32)) 16 := pk_andIn x 4 (by decide) (by decide)
theorem gw_and7 (x : Int32) : vp_in (x &&& (7 : Int32)) 8 := pk_andIn x 3 (by decide) (by decide)
theorem gw_and3 (x : Int32) : vp_in (x &&& (3 : Int32)) 4 := pk_andIn x 2 (by decide) (by decide)
theorem gw_inB {i b : Int32} {N : Nat} (hb : b.toInt = (N : Int)) (h : ¬ b ≤ i) (h0 : 0 ≤ i.toInt) : vp_in i N := by
  rw [vp_in_iff]
  rw [Int32.le_iff_toInt_le] at h
  omega
theorem gw_inB0 {i b : Int32} {N : Nat} (hb : b.toInt = (N : Int)) (h : ¬ b ≤ i) (h0 : ¬ i < 0) : vp_in i N := by
  refine gw_inB hb h ?_
  rw [Int32.lt_iff_toInt_lt, Int32.toInt_zero] at h0
  omega
theorem gw_lt1 {i b : Int32} (h : ¬ b ≤ i) : (i + 1).toInt = i.toInt + 1 := by
  rw [Int32.le_iff_toInt_le] at h
  have h1 := Int32.toInt_lt b
  have h2 := Int32.le_toInt i
  rw [Int32.toInt_add, show (1 : Int32).toInt = 1 from rfl]
  exact Int.bmod_eq_of_le (by omega) (by omega)
theorem gw_stp {i b : Int32} {n : Nat} (h : ¬ b ≤ i) (hf : b.toInt - i.toInt < ((n + 1 : Nat) : Int)) : 0 < n ∧ b.toInt - (i + 1).toInt < (n : Int) ∧ (i + 1).toInt = i.toInt + 1 := by
  have h3 := gw_lt1 h
  rw [Int32.le_iff_toInt_le] at h
  omega
theorem gw_stp0 {i b : Int32} (h : ¬ b ≤ i) (h0 : 0 ≤ i.toInt) : 0 ≤ (i + 1).toInt := by
  rw [gw_lt1 h]; omega
theorem gw_us {S : gw_S} {i k : Nat} {x : Int32} : gw_u S i k x i k = x := by simp [gw_u, va_up, upd]
theorem gw_un {S : gw_S} {i k a b : Nat} {x : Int32} (h : ¬ (a = i ∧ b = k)) : gw_u S i k x a b = S a b := by
  by_cases e : a = i
  · subst e
    have hb : ¬ b = k := fun q => h ⟨rfl, q⟩
    simp [gw_u, va_up, upd, hb]
  · simp [gw_u, va_up, e]
theorem gw_inC {i b : Int32} {N : Nat} (hb : b.toInt = (N : Int)) (h : i < b) (h0 : ¬ i < 0) : vp_in i N := by
  rw [vp_in_iff]
  rw [Int32.lt_iff_toInt_lt] at h
  rw [Int32.lt_iff_toInt_lt, Int32.toInt_zero] at h0
  omega
theorem gw_popIn {S S' : gw_S} {c : Nat} (e : S' = gw_u S c 1 (S c 1 - (1 : Int32))) (h5 : ¬ S c 1 < (1 : Int32)) (h14 : S c 1 ≤ (8 : Int32)) : vp_in (S' c 1) 8 := by
  subst e
  rw [gw_us, vp_in_iff]
  rw [Int32.lt_iff_toInt_lt, show (1 : Int32).toInt = 1 from rfl] at h5
  rw [Int32.le_iff_toInt_le, show (8 : Int32).toInt = 8 from rfl] at h14
  have h1 : (S c 1 - (1 : Int32)).toInt = (S c 1).toInt - 1 := by
    rw [Int32.toInt_sub, show (1 : Int32).toInt = 1 from rfl]
    exact Int.bmod_eq_of_le (by omega) (by omega)
  omega
theorem gw_nn {i : Int32} (h : (0 : Int32) ≤ i) : 0 ≤ i.toInt := by
  rw [Int32.le_iff_toInt_le, Int32.toInt_zero] at h; exact h
theorem gw_inX {i b c : Int32} {N : Nat} (hc : c.toInt = (N : Int)) (h : ¬ b ≤ i) (h3 : b ≤ c) (h0 : 0 ≤ i.toInt) : vp_in i N := by
  rw [vp_in_iff]
  rw [Int32.le_iff_toInt_le] at h h3
  omega
theorem gw_inG {i b : Int32} {N : Nat} (hb : vp_in b N) (h : ¬ b < i) (h0 : 0 ≤ i.toInt) : vp_in i N := by
  rw [vp_in_iff] at hb ⊢
  rw [Int32.lt_iff_toInt_lt] at h
  omega
theorem gw_add1 {i : Int32} (h : i.toInt < 2147483647) : (i + 1).toInt = i.toInt + 1 := by
  have h2 := Int32.le_toInt i
  rw [Int32.toInt_add, show (1 : Int32).toInt = 1 from rfl]
  exact Int.bmod_eq_of_le (by omega) (by omega)
theorem gw_stpG {i b : Int32} {n : Nat} (hb : vp_in b 16) (h : ¬ b < i) (hf : b.toInt + 1 - i.toInt < ((n + 1 : Nat) : Int)) : 0 < n ∧ b.toInt + 1 - (i + 1).toInt < (n : Int) ∧ (i + 1).toInt = i.toInt + 1 := by
  rw [vp_in_iff] at hb
  rw [Int32.lt_iff_toInt_lt] at h
  have h3 := gw_add1 (i := i) (by omega)
  omega
theorem gw_up1 {i : Int32} (h : (i + 1).toInt = i.toInt + 1) (h0 : 0 ≤ i.toInt) : 0 ≤ (i + 1).toInt := by omega
theorem pg_ix {p x y : Int32} (hp : vp_in p 4) (hx : vp_in x 64) (hy : vp_in y 40) : vp_in (((p * (2560 : Int32)) + (y * (64 : Int32))) + x) 10240 := by
  obtain ⟨a, ha, rfl⟩ := vp_in_of hp (by decide)
  obtain ⟨b, hb, rfl⟩ := vp_in_of hy (by decide)
  obtain ⟨c, hc, rfl⟩ := vp_in_of hx (by decide)
  rw [show (2560 : Int32) = nI 2560 from rfl, show (64 : Int32) = nI 64 from rfl, pk_mul, pk_mul, nI_add, nI_add]
  exact vp_in_nI (by omega) (by decide)
theorem pg_1 {v p : Int32} (e : v = p * (2560 : Int32)) (hp : vp_in p 4) : v ≤ v + (2560 : Int32) := by
  obtain ⟨a, ha, rfl⟩ := vp_in_of hp (by decide)
  rw [e, show (2560 : Int32) = nI 2560 from rfl, pk_mul, nI_add]
  exact nI_le (by omega) (by omega)
theorem pg_2 {v p : Int32} (e : v = p * (2560 : Int32)) (hp : vp_in p 4) : (0 : Int32) ≤ v := by
  obtain ⟨a, ha, rfl⟩ := vp_in_of hp (by decide)
  rw [e, show (2560 : Int32) = nI 2560 from rfl, pk_mul]
  exact nI_pos' (by omega)
theorem pg_3 {v p : Int32} (e : v = p * (2560 : Int32)) (hp : vp_in p 4) : v + (2560 : Int32) ≤ (10240 : Int32) := by
  obtain ⟨a, ha, rfl⟩ := vp_in_of hp (by decide)
  rw [e, show (2560 : Int32) = nI 2560 from rfl, pk_mul, nI_add, show (10240 : Int32) = nI 10240 from rfl]
  exact nI_le (by omega) (by omega)
theorem gw_addI {a b : Int32} (h1 : -2147483648 ≤ a.toInt + b.toInt) (h2 : a.toInt + b.toInt ≤ 2147483647) : (a + b).toInt = a.toInt + b.toInt := by
  rw [Int32.toInt_add]
  exact Int.bmod_eq_of_le (by omega) (by omega)
theorem gw_subI {a b : Int32} (h1 : -2147483648 ≤ a.toInt - b.toInt) (h2 : a.toInt - b.toInt ≤ 2147483647) : (a - b).toInt = a.toInt - b.toInt := by
  rw [Int32.toInt_sub]
  exact Int.bmod_eq_of_le (by omega) (by omega)
theorem gw_ent (x : Int) : x < ((x.toNat + 1 : Nat) : Int) := by omega

def cSh (x : Int32) : Prop := x.toInt16.toInt32 = x
theorem cSh_w (x : Int32) : cSh x.toInt16.toInt32 := by
  unfold cSh
  simp
def cYb (x : Int32) : Prop := -2097152 ≤ x.toInt ∧ x.toInt ≤ 2097152
def cOKc (i k : Nat) (x : Int32) : Prop := (i = 3 ∨ i = 8 → vp_in x 256) ∧ (i = 4 → cSh x) ∧ (i = 9 → k = 1 ∨ k = 2 → vp_in x 4) ∧ (i = 10 → fits .byte (.int x) = true) ∧ (i = 11 ∨ i = 12 ∨ i = 13 → cYb x)
def cOK (S : gw_S) : Prop := ∀ i k, cOKc i k (S i k)
theorem cOK_u {S S' : gw_S} {i k : Nat} {x : Int32} (e : S' = gw_u S i k x) (h : cOK S) (hx : cOKc i k x) : cOK S' := by
  subst e
  intro a b
  by_cases q : a = i ∧ b = k
  · obtain ⟨rfl, rfl⟩ := q
    rw [gw_us]; exact hx
  · rw [gw_un q]; exact h a b
theorem cOK_o {S S' : gw_S} {i k : Nat} {x : Int32} (e : S' = gw_u S i k x) (h : cOK S) (hi : i ≠ 3 ∧ i ≠ 8 ∧ i ≠ 4 ∧ i ≠ 9 ∧ i ≠ 10 ∧ i ≠ 11 ∧ i ≠ 12 ∧ i ≠ 13) : cOK S' :=
  cOK_u e h ⟨fun q => absurd q (by omega), fun q => absurd q (by omega), fun q => absurd q (by omega), fun q => absurd q (by omega), fun q => absurd q (by omega)⟩
theorem cOK_v {S S' : gw_S} {k : Nat} {x : Int32} (e : S' = gw_u S 4 k x) (h : cOK S) (hx : cSh x) : cOK S' :=
  cOK_u e h ⟨fun q => absurd q (by omega), fun _ => hx, fun q => absurd q (by omega), fun q => absurd q (by omega), fun q => absurd q (by omega)⟩
theorem cOK_x {S S' : gw_S} {k : Nat} {x : Int32} (e : S' = gw_u S 10 k (vp_nar .byte x)) (h : cOK S) : cOK S' :=
  cOK_u e h ⟨fun q => absurd q (by omega), fun q => absurd q (by omega), fun q => absurd q (by omega), fun _ => by rw [vp_nar_byte]; exact pk_fb x, fun q => absurd q (by omega)⟩
theorem cOK_B {S S' : gw_S} {b k : Nat} {x : Int32} (hb : b = 2 ∨ b = 7) (e : S' = gw_u S (b + 1) k x) (h : cOK S) (hx : vp_in x 256) : cOK S' :=
  cOK_u e h ⟨fun _ => hx, fun q => absurd q (by omega), fun q => absurd q (by omega), fun q => absurd q (by omega), fun q => absurd q (by omega)⟩
theorem cOK_g {S S' : gw_S} {k : Nat} {x : Int32} (e : S' = gw_u S 9 k x) (h : cOK S) (hx : vp_in x 4) : cOK S' :=
  cOK_u e h ⟨fun q => absurd q (by omega), fun q => absurd q (by omega), fun _ _ => hx, fun q => absurd q (by omega), fun q => absurd q (by omega)⟩
theorem cOK_cp {S S' : gw_S} {sp dp n : Nat} (e : S' = gw_a S 10 (va_cpy (S 10) (S 10) sp dp n)) (h : cOK S) : cOK S' := by
  subst e
  intro a b
  by_cases q : a = 10
  · subst q
    have hc : ∀ c, cOKc 10 b (S 10 c) := fun c => ⟨fun z => absurd z (by omega), fun z => absurd z (by omega), fun z => absurd z (by omega), fun _ => (h 10 c).2.2.2.1 rfl, fun z => absurd z (by omega)⟩
    have e1 : gw_a S 10 (va_cpy (S 10) (S 10) sp dp n) 10 b = va_cpy (S 10) (S 10) sp dp n b := by simp [gw_a, va_up]
    rw [e1]
    unfold va_cpy
    split
    · exact hc _
    · exact hc _
  · have e1 : gw_a S 10 (va_cpy (S 10) (S 10) sp dp n) a b = S a b := by simp [gw_a, va_up, q]
    rw [e1]; exact h a b
theorem pg_4 {p : Int32} (hp : vp_in p 4) : ¬ p * (2560 : Int32) < 0 := by
  obtain ⟨a, ha, rfl⟩ := vp_in_of hp (by decide)
  rw [show (2560 : Int32) = nI 2560 from rfl, pk_mul]
  exact nI_pos (by omega)
theorem pg_5 {p : Int32} (hp : vp_in p 4) : (p * (2560 : Int32)).toNatClampNeg + (2560 : Int32).toNatClampNeg ≤ 10240 := by
  obtain ⟨a, ha, rfl⟩ := vp_in_of hp (by decide)
  rw [show (2560 : Int32) = nI 2560 from rfl, pk_mul, nI_clamp (by omega), nI_clamp (by omega)]
  omega
theorem cOK_y {S S' : gw_S} {i k : Nat} {x : Int32} (e : S' = gw_u S i k x) (h : cOK S) (hi : i = 11 ∨ i = 12 ∨ i = 13) (hx : cYb x) : cOK S' :=
  cOK_u e h ⟨fun q => absurd q (by omega), fun q => absurd q (by omega), fun q => absurd q (by omega), fun q => absurd q (by omega), fun _ => hx⟩
end
section
def cT_SM : u_T := fun k => match k with
  | 0 => ("StageMachine", "player", "LStageMachine$Player;", true)
  | 1 => ("StageMachine", "frames", "I", false)
  | _ => ("StageMachine", "instructionsDone", "I", false)
def cty_SM : Nat → FieldType := fun k => match k with
  | 0 => (.object "StageMachine$Player")
  | 1 => .int
  | _ => .int
theorem cnm_SM : ∀ a, a < 3 → ∀ b, b < 3 → a ≠ b → (cT_SM a).2.1 ≠ (cT_SM b).2.1 := by decide +kernel
theorem ctk_SM : ∀ k, k < 3 → parseFieldDescriptor (cT_SM k).2.2.1 = some (cty_SM k) := by decide +kernel
def cT_Player : u_T := fun k => match k with
  | 0 => ("StageMachine$Player", "program", "LStageMachine$Bytes;", true)
  | 1 => ("StageMachine$Player", "variables", "[I", true)
  | 2 => ("StageMachine$Player", "channels", "[LStageMachine$Channel;", true)
  | 3 => ("StageMachine$Player", "painter", "LStageMachine$Painter;", true)
  | 4 => ("StageMachine$Player", "at", "I", false)
  | _ => ("StageMachine$Player", "goingOn", "Z", false)
def cty_Player : Nat → FieldType := fun k => match k with
  | 0 => (.object "StageMachine$Bytes")
  | 1 => (.array .int)
  | 2 => (.array (.object "StageMachine$Channel"))
  | 3 => (.object "StageMachine$Painter")
  | 4 => .int
  | _ => .boolean
theorem cnm_Player : ∀ a, a < 6 → ∀ b, b < 6 → a ≠ b → (cT_Player a).2.1 ≠ (cT_Player b).2.1 := by decide +kernel
theorem ctk_Player : ∀ k, k < 6 → parseFieldDescriptor (cT_Player k).2.2.1 = some (cty_Player k) := by decide +kernel
def cT_Bytes : u_T := fun k => match k with
  | _ => ("StageMachine$Bytes", "bytes", "[I", true)
def cty_Bytes : Nat → FieldType := fun k => match k with
  | _ => (.array .int)
theorem cnm_Bytes : ∀ a, a < 1 → ∀ b, b < 1 → a ≠ b → (cT_Bytes a).2.1 ≠ (cT_Bytes b).2.1 := by decide +kernel
theorem ctk_Bytes : ∀ k, k < 1 → parseFieldDescriptor (cT_Bytes k).2.2.1 = some (cty_Bytes k) := by decide +kernel
def cT_Painter : u_T := fun k => match k with
  | 0 => ("StageMachine$Painter", "shapes", "LStageMachine$Bytes;", true)
  | 1 => ("StageMachine$Painter", "pages", "LStageMachine$Pages;", true)
  | 2 => ("StageMachine$Painter", "rightXs", "[I", true)
  | 3 => ("StageMachine$Painter", "leftXs", "[I", true)
  | 4 => ("StageMachine$Painter", "pairYs", "[I", true)
  | 5 => ("StageMachine$Painter", "begunInDraw", "I", false)
  | 6 => ("StageMachine$Painter", "begunInFrame", "I", false)
  | _ => ("StageMachine$Painter", "rowsInFrame", "I", false)
def cty_Painter : Nat → FieldType := fun k => match k with
  | 0 => (.object "StageMachine$Bytes")
  | 1 => (.object "StageMachine$Pages")
  | 2 => (.array .int)
  | 3 => (.array .int)
  | 4 => (.array .int)
  | 5 => .int
  | 6 => .int
  | _ => .int
theorem cnm_Painter : ∀ a, a < 8 → ∀ b, b < 8 → a ≠ b → (cT_Painter a).2.1 ≠ (cT_Painter b).2.1 := by decide +kernel
theorem ctk_Painter : ∀ k, k < 8 → parseFieldDescriptor (cT_Painter k).2.2.1 = some (cty_Painter k) := by decide +kernel
def cT_Pages : u_T := fun k => match k with
  | 0 => ("StageMachine$Pages", "pixels", "[B", true)
  | 1 => ("StageMachine$Pages", "working", "I", false)
  | _ => ("StageMachine$Pages", "shown", "I", false)
def cty_Pages : Nat → FieldType := fun k => match k with
  | 0 => (.array .byte)
  | 1 => .int
  | _ => .int
theorem cnm_Pages : ∀ a, a < 3 → ∀ b, b < 3 → a ≠ b → (cT_Pages a).2.1 ≠ (cT_Pages b).2.1 := by decide +kernel
theorem ctk_Pages : ∀ k, k < 3 → parseFieldDescriptor (cT_Pages k).2.2.1 = some (cty_Pages k) := by decide +kernel
def cT_Channel : u_T := fun k => match k with
  | 0 => ("StageMachine$Channel", "pile", "[I", true)
  | 1 => ("StageMachine$Channel", "returns", "I", false)
  | 2 => ("StageMachine$Channel", "address", "I", false)
  | 3 => ("StageMachine$Channel", "paused", "Z", false)
  | 4 => ("StageMachine$Channel", "latestFault", "I", false)
  | 5 => ("StageMachine$Channel", "askedAddress", "I", false)
  | _ => ("StageMachine$Channel", "askedPause", "I", false)
def cty_Channel : Nat → FieldType := fun k => match k with
  | 0 => (.array .int)
  | 1 => .int
  | 2 => .int
  | 3 => .boolean
  | 4 => .int
  | 5 => .int
  | _ => .int
theorem cnm_Channel : ∀ a, a < 7 → ∀ b, b < 7 → a ≠ b → (cT_Channel a).2.1 ≠ (cT_Channel b).2.1 := by decide +kernel
theorem ctk_Channel : ∀ k, k < 7 → parseFieldDescriptor (cT_Channel k).2.2.1 = some (cty_Channel k) := by decide +kernel
def rT_Model : u_T := fun k => match k with
  | 0 => ("StageMachineModel", "program", "[I", true)
  | 1 => ("StageMachineModel", "shapes", "[I", true)
  | 2 => ("StageMachineModel", "variable", "[I", true)
  | 3 => ("StageMachineModel", "pixels", "[B", true)
  | 4 => ("StageMachineModel", "working", "I", false)
  | 5 => ("StageMachineModel", "shown", "I", false)
  | 6 => ("StageMachineModel", "address", "[I", true)
  | 7 => ("StageMachineModel", "many", "[I", true)
  | 8 => ("StageMachineModel", "faults", "[I", true)
  | 9 => ("StageMachineModel", "asked", "[I", true)
  | 10 => ("StageMachineModel", "askedPause", "[I", true)
  | 11 => ("StageMachineModel", "paused", "[Z", true)
  | 12 => ("StageMachineModel", "pile", "[I", true)
  | 13 => ("StageMachineModel", "frames", "I", false)
  | 14 => ("StageMachineModel", "done", "I", false)
  | 15 => ("StageMachineModel", "rows", "I", false)
  | 16 => ("StageMachineModel", "begun", "I", false)
  | 17 => ("StageMachineModel", "who", "I", false)
  | 18 => ("StageMachineModel", "at", "I", false)
  | 19 => ("StageMachineModel", "fault", "I", false)
  | 20 => ("StageMachineModel", "on", "Z", false)
  | 21 => ("StageMachineModel", "drawn", "I", false)
  | 22 => ("StageMachineModel", "zoom", "I", false)
  | 23 => ("StageMachineModel", "parts", "I", false)
  | 24 => ("StageMachineModel", "partAt", "[I", true)
  | 25 => ("StageMachineModel", "partX", "[I", true)
  | 26 => ("StageMachineModel", "partY", "[I", true)
  | 27 => ("StageMachineModel", "partColour", "[I", true)
  | 28 => ("StageMachineModel", "partWithin", "[I", true)
  | 29 => ("StageMachineModel", "reading", "I", false)
  | 30 => ("StageMachineModel", "right", "[I", true)
  | 31 => ("StageMachineModel", "left", "[I", true)
  | _ => ("StageMachineModel", "high", "[I", true)
def rty_Model : Nat → FieldType := fun k => match k with
  | 0 => (.array .int)
  | 1 => (.array .int)
  | 2 => (.array .int)
  | 3 => (.array .byte)
  | 4 => .int
  | 5 => .int
  | 6 => (.array .int)
  | 7 => (.array .int)
  | 8 => (.array .int)
  | 9 => (.array .int)
  | 10 => (.array .int)
  | 11 => (.array .boolean)
  | 12 => (.array .int)
  | 13 => .int
  | 14 => .int
  | 15 => .int
  | 16 => .int
  | 17 => .int
  | 18 => .int
  | 19 => .int
  | 20 => .boolean
  | 21 => .int
  | 22 => .int
  | 23 => .int
  | 24 => (.array .int)
  | 25 => (.array .int)
  | 26 => (.array .int)
  | 27 => (.array .int)
  | 28 => (.array .int)
  | 29 => .int
  | 30 => (.array .int)
  | 31 => (.array .int)
  | _ => (.array .int)
theorem rnm_Model : ∀ a, a < 33 → ∀ b, b < 33 → a ≠ b → (rT_Model a).2.1 ≠ (rT_Model b).2.1 := by decide +kernel
theorem rtk_Model : ∀ k, k < 33 → parseFieldDescriptor (rT_Model k).2.2.1 = some (rty_Model k) := by decide +kernel
abbrev gCl : List vw_C := [("StageMachine$Bytes", cT_Bytes, 1), ("StageMachine$Channel", cT_Channel, 7), ("StageMachine$Pages", cT_Pages, 3), ("StageMachine$Painter", cT_Painter, 8), ("StageMachine$Player", cT_Player, 6), ("StageMachine", cT_SM, 3), ("StageMachineModel", rT_Model, 33)]
abbrev gTys (cI cB cC cZ : ClassId) : List (ClassId × FieldType) := [(cI, .int), (cB, .byte), (cC, .object "StageMachine$Channel"), (cZ, .boolean)]
theorem cin_SM : ∀ w ∈ u_ws "StageMachine" cT_SM 3, w ∈ gTs := by
  intro w hw
  obtain ⟨k, hk, rfl⟩ := List.mem_map.mp hw
  have hk := List.mem_range.mp hk
  match k, hk with
  | 0, _ => exact tw_161
  | 1, _ => exact tw_163
  | 2, _ => exact tw_165
  | n + 3, h => exact absurd h (by omega)
theorem cin_Player : ∀ w ∈ u_ws "StageMachine$Player" cT_Player 6, w ∈ gTs := by
  intro w hw
  obtain ⟨k, hk, rfl⟩ := List.mem_map.mp hw
  have hk := List.mem_range.mp hk
  match k, hk with
  | 0, _ => exact tw_145
  | 1, _ => exact tw_147
  | 2, _ => exact tw_149
  | 3, _ => exact tw_151
  | 4, _ => exact tw_153
  | 5, _ => exact tw_155
  | n + 6, h => exact absurd h (by omega)
theorem cin_Bytes : ∀ w ∈ u_ws "StageMachine$Bytes" cT_Bytes 1, w ∈ gTs := by
  intro w hw
  obtain ⟨k, hk, rfl⟩ := List.mem_map.mp hw
  have hk := List.mem_range.mp hk
  match k, hk with
  | 0, _ => exact tw_32
  | n + 1, h => exact absurd h (by omega)
theorem cin_Painter : ∀ w ∈ u_ws "StageMachine$Painter" cT_Painter 8, w ∈ gTs := by
  intro w hw
  obtain ⟨k, hk, rfl⟩ := List.mem_map.mp hw
  have hk := List.mem_range.mp hk
  match k, hk with
  | 0, _ => exact tw_82
  | 1, _ => exact tw_84
  | 2, _ => exact tw_86
  | 3, _ => exact tw_88
  | 4, _ => exact tw_90
  | 5, _ => exact tw_92
  | 6, _ => exact tw_94
  | 7, _ => exact tw_96
  | n + 8, h => exact absurd h (by omega)
theorem cin_Pages : ∀ w ∈ u_ws "StageMachine$Pages" cT_Pages 3, w ∈ gTs := by
  intro w hw
  obtain ⟨k, hk, rfl⟩ := List.mem_map.mp hw
  have hk := List.mem_range.mp hk
  match k, hk with
  | 0, _ => exact tw_60
  | 1, _ => exact tw_62
  | 2, _ => exact tw_64
  | n + 3, h => exact absurd h (by omega)
theorem cin_Channel : ∀ w ∈ u_ws "StageMachine$Channel" cT_Channel 7, w ∈ gTs := by
  intro w hw
  obtain ⟨k, hk, rfl⟩ := List.mem_map.mp hw
  have hk := List.mem_range.mp hk
  match k, hk with
  | 0, _ => exact tw_120
  | 1, _ => exact tw_122
  | 2, _ => exact tw_124
  | 3, _ => exact tw_126
  | 4, _ => exact tw_128
  | 5, _ => exact tw_130
  | 6, _ => exact tw_132
  | n + 7, h => exact absurd h (by omega)
def cE (ad : Nat → Nat) (cI cB cC : ClassId) : Nat → (Nat → Int32) → va_E
  | 0, x => .inr (5, [.ref (ad 1), .int (x 1), .int (x 2)])
  | 1, x => .inr (4, [.ref (ad 2), .ref (ad 4), .ref (ad 5), .ref (ad 6), .int (x 4), .int (x 5)])
  | 2, _ => .inr (0, [.ref (ad 3)])
  | 3, x => .inl (cI, 1024, .inl x)
  | 4, x => .inl (cI, 32, .inl x)
  | 5, _ => .inl (cC, 16, .inr (.inr (.inr (.inr (fun k => some (ad (k + 14)))))))
  | 6, x => .inr (3, [.ref (ad 7), .ref (ad 9), .ref (ad 11), .ref (ad 12), .ref (ad 13), .int (x 5), .int (x 6), .int (x 7)])
  | 7, _ => .inr (0, [.ref (ad 8)])
  | 8, x => .inl (cI, 1024, .inl x)
  | 9, x => .inr (2, [.ref (ad 10), .int (x 1), .int (x 2)])
  | 10, x => .inl (cB, 10240, .inl x)
  | 11, x => .inl (cI, 16, .inl x)
  | 12, x => .inl (cI, 16, .inl x)
  | 13, x => .inl (cI, 16, .inl x)
  | n + 14, x => if n < 16 then .inr (1, [.ref (ad (n + 30)), .int (x 1), .int (x 2), .int (x 3), .int (x 4), .int (x 5), .int (x 6)]) else .inl (cI, 8, .inl x)
section
variable {ad : Nat → Nat} {cI cB cC cZ : ClassId} {x : Nat → Int32}
theorem cE_SM : cE ad cI cB cC 0 x = .inr (5, [.ref (ad 1), .int (x 1), .int (x 2)]) := rfl
theorem cE_Player : cE ad cI cB cC 1 x = .inr (4, [.ref (ad 2), .ref (ad 4), .ref (ad 5), .ref (ad 6), .int (x 4), .int (x 5)]) := rfl
theorem cE_Vars : cE ad cI cB cC 4 x = .inl (cI, 32, .inl x) := rfl
theorem cE_Chans : cE ad cI cB cC 5 x = .inl (cC, 16, .inr (.inr (.inr (.inr (fun k => some (ad (k + 14))))))) := rfl
theorem cE_Painter : cE ad cI cB cC 6 x = .inr (3, [.ref (ad 7), .ref (ad 9), .ref (ad 11), .ref (ad 12), .ref (ad 13), .int (x 5), .int (x 6), .int (x 7)]) := rfl
theorem cE_Pages : cE ad cI cB cC 9 x = .inr (2, [.ref (ad 10), .int (x 1), .int (x 2)]) := rfl
theorem cE_Pix : cE ad cI cB cC 10 x = .inl (cB, 10240, .inl x) := rfl
theorem cE_RXs : cE ad cI cB cC 11 x = .inl (cI, 16, .inl x) := rfl
theorem cE_LXs : cE ad cI cB cC 12 x = .inl (cI, 16, .inl x) := rfl
theorem cE_PYs : cE ad cI cB cC 13 x = .inl (cI, 16, .inl x) := rfl
theorem cE_Bytes {b : Nat} (h : b = 2 ∨ b = 7) : cE ad cI cB cC b x = .inr (0, [.ref (ad (b + 1))]) := by rcases h with rfl | rfl <;> rfl
theorem cE_BArr {b : Nat} (h : b = 2 ∨ b = 7) : cE ad cI cB cC (b + 1) x = .inl (cI, 1024, .inl x) := by rcases h with rfl | rfl <;> rfl
theorem cE_Channel {j : Nat} (h : j < 16) : cE ad cI cB cC (j + 14) x = .inr (1, [.ref (ad (j + 30)), .int (x 1), .int (x 2), .int (x 3), .int (x 4), .int (x 5), .int (x 6)]) := by show (if j < 16 then _ else _) = _; exact if_pos h
theorem cE_Pile {j : Nat} (h : j < 16) : cE ad cI cB cC (j + 30) x = .inl (cI, 8, .inl x) := rfl
theorem chi_Bytes {b : Nat} (h : b = 2 ∨ b = 7) : b < 46 := by omega
theorem chi_BArr {b : Nat} (h : b = 2 ∨ b = 7) : b + 1 < 46 := by omega
theorem chi_Channel {j : Nat} (h : j < 16) : j + 14 < 46 := by omega
theorem chi_Pile {j : Nat} (h : j < 16) : j + 30 < 46 := by omega
end
section
variable {l : Launch} {D : va_G} {cI cB cC cZ : ClassId} {ad : Nat → Nat} {α : Type} {X : gx_M} {cc : ByteArray} {nL : Nat} {ret : Option FieldType} {own : String} {rm : Room} {A : Nat → Prop} {rv : α → Option Value} {S : gw_S} {pc : Nat} {lv : List (Nat × Value)} {rest : List Value} {ans : α × gw_S}
theorem cg_SM_player (F : gw_F X l cc nL ret own gTs rm D gCl (gTys cI cB cC cZ) 46 ad A) {index : Nat} (hl : Cond.fieldLink own index "StageMachine" "player" "LStageMachine$Player;" ∈ gTs) (hd : decode cc pc = .ok (.getfield index, 3)) (kk : gw_V X (gw_P D gCl 46 ad (cE ad cI cB cC)) A nL rv S (pc + 3) lv (.ref (ad 1) :: rest) ans) : gw_V X (gw_P D gCl 46 ad (cE ad cI cB cC)) A nL rv S pc lv (.ref (ad 0) :: rest) ans := gw_get F cin_SM 0 (by decide) cE_SM rfl 0 (by decide) hl rfl rfl hd kk
theorem cgN_SM_player (F : gw_F X l cc nL ret own gTs rm D gCl (gTys cI cB cC cZ) 46 ad A) {index : Nat} {host : String} (hl : Cond.fieldLinkNest own index "StageMachine" "player" "LStageMachine$Player;" host ∈ gTs) (hd : decode cc pc = .ok (.getfield index, 3)) (kk : gw_V X (gw_P D gCl 46 ad (cE ad cI cB cC)) A nL rv S (pc + 3) lv (.ref (ad 1) :: rest) ans) : gw_V X (gw_P D gCl 46 ad (cE ad cI cB cC)) A nL rv S pc lv (.ref (ad 0) :: rest) ans := gw_getN F cin_SM 0 (by decide) cE_SM rfl 0 (by decide) hl rfl rfl hd kk
theorem cg_SM_frames (F : gw_F X l cc nL ret own gTs rm D gCl (gTys cI cB cC cZ) 46 ad A) {index : Nat} (hl : Cond.fieldLink own index "StageMachine" "frames" "I" ∈ gTs) (hd : decode cc pc = .ok (.getfield index, 3)) (kk : gw_V X (gw_P D gCl 46 ad (cE ad cI cB cC)) A nL rv S (pc + 3) lv (.int (S 0 1) :: rest) ans) : gw_V X (gw_P D gCl 46 ad (cE ad cI cB cC)) A nL rv S pc lv (.ref (ad 0) :: rest) ans := gw_get F cin_SM 0 (by decide) cE_SM rfl 1 (by decide) hl rfl rfl hd kk
theorem cp_SM_frames (F : gw_F X l cc nL ret own gTs rm D gCl (gTys cI cB cC cZ) 46 ad A) {index : Nat} {x : Int32} (hl : Cond.fieldLink own index "StageMachine" "frames" "I" ∈ gTs) (hd : decode cc pc = .ok (.putfield index, 3)) (kk : gw_V X (gw_P D gCl 46 ad (cE ad cI cB cC)) A nL rv (gw_u S 0 1 x) (pc + 3) lv rest ans) : gw_V X (gw_P D gCl 46 ad (cE ad cI cB cC)) A nL rv S pc lv (.int x :: .ref (ad 0) :: rest) ans := gw_put F cin_SM cty_SM ctk_SM cnm_SM 0 (by decide) cE_SM rfl 1 (by decide) hl rfl rfl (ctk_SM 1 (by decide)) rfl rfl (Nat.le_of_ble_eq_true rfl) ((cE_SM).trans rfl) hd kk
theorem cgN_SM_frames (F : gw_F X l cc nL ret own gTs rm D gCl (gTys cI cB cC cZ) 46 ad A) {index : Nat} {host : String} (hl : Cond.fieldLinkNest own index "StageMachine" "frames" "I" host ∈ gTs) (hd : decode cc pc = .ok (.getfield index, 3)) (kk : gw_V X (gw_P D gCl 46 ad (cE ad cI cB cC)) A nL rv S (pc + 3) lv (.int (S 0 1) :: rest) ans) : gw_V X (gw_P D gCl 46 ad (cE ad cI cB cC)) A nL rv S pc lv (.ref (ad 0) :: rest) ans := gw_getN F cin_SM 0 (by decide) cE_SM rfl 1 (by decide) hl rfl rfl hd kk
theorem cpN_SM_frames (F : gw_F X l cc nL ret own gTs rm D gCl (gTys cI cB cC cZ) 46 ad A) {index : Nat} {host : String} {x : Int32} (hl : Cond.fieldLinkNest own index "StageMachine" "frames" "I" host ∈ gTs) (hd : decode cc pc = .ok (.putfield index, 3)) (kk : gw_V X (gw_P D gCl 46 ad (cE ad cI cB cC)) A nL rv (gw_u S 0 1 x) (pc + 3) lv rest ans) : gw_V X (gw_P D gCl 46 ad (cE ad cI cB cC)) A nL rv S pc lv (.int x :: .ref (ad 0) :: rest) ans := gw_putN F cin_SM cty_SM ctk_SM cnm_SM 0 (by decide) cE_SM rfl 1 (by decide) hl rfl rfl (ctk_SM 1 (by decide)) rfl rfl (Nat.le_of_ble_eq_true rfl) ((cE_SM).trans rfl) hd kk
theorem cg_SM_instructionsDone (F : gw_F X l cc nL ret own gTs rm D gCl (gTys cI cB cC cZ) 46 ad A) {index : Nat} (hl : Cond.fieldLink own index "StageMachine" "instructionsDone" "I" ∈ gTs) (hd : decode cc pc = .ok (.getfield index, 3)) (kk : gw_V X (gw_P D gCl 46 ad (cE ad cI cB cC)) A nL rv S (pc + 3) lv (.int (S 0 2) :: rest) ans) : gw_V X (gw_P D gCl 46 ad (cE ad cI cB cC)) A nL rv S pc lv (.ref (ad 0) :: rest) ans := gw_get F cin_SM 0 (by decide) cE_SM rfl 2 (by decide) hl rfl rfl hd kk
theorem cp_SM_instructionsDone (F : gw_F X l cc nL ret own gTs rm D gCl (gTys cI cB cC cZ) 46 ad A) {index : Nat} {x : Int32} (hl : Cond.fieldLink own index "StageMachine" "instructionsDone" "I" ∈ gTs) (hd : decode cc pc = .ok (.putfield index, 3)) (kk : gw_V X (gw_P D gCl 46 ad (cE ad cI cB cC)) A nL rv (gw_u S 0 2 x) (pc + 3) lv rest ans) : gw_V X (gw_P D gCl 46 ad (cE ad cI cB cC)) A nL rv S pc lv (.int x :: .ref (ad 0) :: rest) ans := gw_put F cin_SM cty_SM ctk_SM cnm_SM 0 (by decide) cE_SM rfl 2 (by decide) hl rfl rfl (ctk_SM 2 (by decide)) rfl rfl (Nat.le_of_ble_eq_true rfl) ((cE_SM).trans rfl) hd kk
theorem cgN_SM_instructionsDone (F : gw_F X l cc nL ret own gTs rm D gCl (gTys cI cB cC cZ) 46 ad A) {index : Nat} {host : String} (hl : Cond.fieldLinkNest own index "StageMachine" "instructionsDone" "I" host ∈ gTs) (hd : decode cc pc = .ok (.getfield index, 3)) (kk : gw_V X (gw_P D gCl 46 ad (cE ad cI cB cC)) A nL rv S (pc + 3) lv (.int (S 0 2) :: rest) ans) : gw_V X (gw_P D gCl 46 ad (cE ad cI cB cC)) A nL rv S pc lv (.ref (ad 0) :: rest) ans := gw_getN F cin_SM 0 (by decide) cE_SM rfl 2 (by decide) hl rfl rfl hd kk
theorem cpN_SM_instructionsDone (F : gw_F X l cc nL ret own gTs rm D gCl (gTys cI cB cC cZ) 46 ad A) {index : Nat} {host : String} {x : Int32} (hl : Cond.fieldLinkNest own index "StageMachine" "instructionsDone" "I" host ∈ gTs) (hd : decode cc pc = .ok (.putfield index, 3)) (kk : gw_V X (gw_P D gCl 46 ad (cE ad cI cB cC)) A nL rv (gw_u S 0 2 x) (pc + 3) lv rest ans) : gw_V X (gw_P D gCl 46 ad (cE ad cI cB cC)) A nL rv S pc lv (.int x :: .ref (ad 0) :: rest) ans := gw_putN F cin_SM cty_SM ctk_SM cnm_SM 0 (by decide) cE_SM rfl 2 (by decide) hl rfl rfl (ctk_SM 2 (by decide)) rfl rfl (Nat.le_of_ble_eq_true rfl) ((cE_SM).trans rfl) hd kk
theorem cg_Player_program (F : gw_F X l cc nL ret own gTs rm D gCl (gTys cI cB cC cZ) 46 ad A) {index : Nat} (hl : Cond.fieldLink own index "StageMachine$Player" "program" "LStageMachine$Bytes;" ∈ gTs) (hd : decode cc pc = .ok (.getfield index, 3)) (kk : gw_V X (gw_P D gCl 46 ad (cE ad cI cB cC)) A nL rv S (pc + 3) lv (.ref (ad 2) :: rest) ans) : gw_V X (gw_P D gCl 46 ad (cE ad cI cB cC)) A nL rv S pc lv (.ref (ad 1) :: rest) ans := gw_get F cin_Player 1 (by decide) cE_Player rfl 0 (by decide) hl rfl rfl hd kk
theorem cgN_Player_program (F : gw_F X l cc nL ret own gTs rm D gCl (gTys cI cB cC cZ) 46 ad A) {index : Nat} {host : String} (hl : Cond.fieldLinkNest own index "StageMachine$Player" "program" "LStageMachine$Bytes;" host ∈ gTs) (hd : decode cc pc = .ok (.getfield index, 3)) (kk : gw_V X (gw_P D gCl 46 ad (cE ad cI cB cC)) A nL rv S (pc + 3) lv (.ref (ad 2) :: rest) ans) : gw_V X (gw_P D gCl 46 ad (cE ad cI cB cC)) A nL rv S pc lv (.ref (ad 1) :: rest) ans := gw_getN F cin_Player 1 (by decide) cE_Player rfl 0 (by decide) hl rfl rfl hd kk
theorem cg_Player_variables (F : gw_F X l cc nL ret own gTs rm D gCl (gTys cI cB cC cZ) 46 ad A) {index : Nat} (hl : Cond.fieldLink own index "StageMachine$Player" "variables" "[I" ∈ gTs) (hd : decode cc pc = .ok (.getfield index, 3)) (kk : gw_V X (gw_P D gCl 46 ad (cE ad cI cB cC)) A nL rv S (pc + 3) lv (.ref (ad 4) :: rest) ans) : gw_V X (gw_P D gCl 46 ad (cE ad cI cB cC)) A nL rv S pc lv (.ref (ad 1) :: rest) ans := gw_get F cin_Player 1 (by decide) cE_Player rfl 1 (by decide) hl rfl rfl hd kk
theorem cgN_Player_variables (F : gw_F X l cc nL ret own gTs rm D gCl (gTys cI cB cC cZ) 46 ad A) {index : Nat} {host : String} (hl : Cond.fieldLinkNest own index "StageMachine$Player" "variables" "[I" host ∈ gTs) (hd : decode cc pc = .ok (.getfield index, 3)) (kk : gw_V X (gw_P D gCl 46 ad (cE ad cI cB cC)) A nL rv S (pc + 3) lv (.ref (ad 4) :: rest) ans) : gw_V X (gw_P D gCl 46 ad (cE ad cI cB cC)) A nL rv S pc lv (.ref (ad 1) :: rest) ans := gw_getN F cin_Player 1 (by decide) cE_Player rfl 1 (by decide) hl rfl rfl hd kk
theorem cg_Player_channels (F : gw_F X l cc nL ret own gTs rm D gCl (gTys cI cB cC cZ) 46 ad A) {index : Nat} (hl : Cond.fieldLink own index "StageMachine$Player" "channels" "[LStageMachine$Channel;" ∈ gTs) (hd : decode cc pc = .ok (.getfield index, 3)) (kk : gw_V X (gw_P D gCl 46 ad (cE ad cI cB cC)) A nL rv S (pc + 3) lv (.ref (ad 5) :: rest) ans) : gw_V X (gw_P D gCl 46 ad (cE ad cI cB cC)) A nL rv S pc lv (.ref (ad 1) :: rest) ans := gw_get F cin_Player 1 (by decide) cE_Player rfl 2 (by decide) hl rfl rfl hd kk
theorem cgN_Player_channels (F : gw_F X l cc nL ret own gTs rm D gCl (gTys cI cB cC cZ) 46 ad A) {index : Nat} {host : String} (hl : Cond.fieldLinkNest own index "StageMachine$Player" "channels" "[LStageMachine$Channel;" host ∈ gTs) (hd : decode cc pc = .ok (.getfield index, 3)) (kk : gw_V X (gw_P D gCl 46 ad (cE ad cI cB cC)) A nL rv S (pc + 3) lv (.ref (ad 5) :: rest) ans) : gw_V X (gw_P D gCl 46 ad (cE ad cI cB cC)) A nL rv S pc lv (.ref (ad 1) :: rest) ans := gw_getN F cin_Player 1 (by decide) cE_Player rfl 2 (by decide) hl rfl rfl hd kk
theorem cg_Player_painter (F : gw_F X l cc nL ret own gTs rm D gCl (gTys cI cB cC cZ) 46 ad A) {index : Nat} (hl : Cond.fieldLink own index "StageMachine$Player" "painter" "LStageMachine$Painter;" ∈ gTs) (hd : decode cc pc = .ok (.getfield index, 3)) (kk : gw_V X (gw_P D gCl 46 ad (cE ad cI cB cC)) A nL rv S (pc + 3) lv (.ref (ad 6) :: rest) ans) : gw_V X (gw_P D gCl 46 ad (cE ad cI cB cC)) A nL rv S pc lv (.ref (ad 1) :: rest) ans := gw_get F cin_Player 1 (by decide) cE_Player rfl 3 (by decide) hl rfl rfl hd kk
theorem cgN_Player_painter (F : gw_F X l cc nL ret own gTs rm D gCl (gTys cI cB cC cZ) 46 ad A) {index : Nat} {host : String} (hl : Cond.fieldLinkNest own index "StageMachine$Player" "painter" "LStageMachine$Painter;" host ∈ gTs) (hd : decode cc pc = .ok (.getfield index, 3)) (kk : gw_V X (gw_P D gCl 46 ad (cE ad cI cB cC)) A nL rv S (pc + 3) lv (.ref (ad 6) :: rest) ans) : gw_V X (gw_P D gCl 46 ad (cE ad cI cB cC)) A nL rv S pc lv (.ref (ad 1) :: rest) ans := gw_getN F cin_Player 1 (by decide) cE_Player rfl 3 (by decide) hl rfl rfl hd kk
theorem cg_Player_at (F : gw_F X l cc nL ret own gTs rm D gCl (gTys cI cB cC cZ) 46 ad A) {index : Nat} (hl : Cond.fieldLink own index "StageMachine$Player" "at" "I" ∈ gTs) (hd : decode cc pc = .ok (.getfield index, 3)) (kk : gw_V X (gw_P D gCl 46 ad (cE ad cI cB cC)) A nL rv S (pc + 3) lv (.int (S 1 4) :: rest) ans) : gw_V X (gw_P D gCl 46 ad (cE ad cI cB cC)) A nL rv S pc lv (.ref (ad 1) :: rest) ans := gw_get F cin_Player 1 (by decide) cE_Player rfl 4 (by decide) hl rfl rfl hd kk
theorem cp_Player_at (F : gw_F X l cc nL ret own gTs rm D gCl (gTys cI cB cC cZ) 46 ad A) {index : Nat} {x : Int32} (hl : Cond.fieldLink own index "StageMachine$Player" "at" "I" ∈ gTs) (hd : decode cc pc = .ok (.putfield index, 3)) (kk : gw_V X (gw_P D gCl 46 ad (cE ad cI cB cC)) A nL rv (gw_u S 1 4 x) (pc + 3) lv rest ans) : gw_V X (gw_P D gCl 46 ad (cE ad cI cB cC)) A nL rv S pc lv (.int x :: .ref (ad 1) :: rest) ans := gw_put F cin_Player cty_Player ctk_Player cnm_Player 1 (by decide) cE_Player rfl 4 (by decide) hl rfl rfl (ctk_Player 4 (by decide)) rfl rfl (Nat.le_of_ble_eq_true rfl) ((cE_Player).trans rfl) hd kk
theorem cgN_Player_at (F : gw_F X l cc nL ret own gTs rm D gCl (gTys cI cB cC cZ) 46 ad A) {index : Nat} {host : String} (hl : Cond.fieldLinkNest own index "StageMachine$Player" "at" "I" host ∈ gTs) (hd : decode cc pc = .ok (.getfield index, 3)) (kk : gw_V X (gw_P D gCl 46 ad (cE ad cI cB cC)) A nL rv S (pc + 3) lv (.int (S 1 4) :: rest) ans) : gw_V X (gw_P D gCl 46 ad (cE ad cI cB cC)) A nL rv S pc lv (.ref (ad 1) :: rest) ans := gw_getN F cin_Player 1 (by decide) cE_Player rfl 4 (by decide) hl rfl rfl hd kk
theorem cpN_Player_at (F : gw_F X l cc nL ret own gTs rm D gCl (gTys cI cB cC cZ) 46 ad A) {index : Nat} {host : String} {x : Int32} (hl : Cond.fieldLinkNest own index "StageMachine$Player" "at" "I" host ∈ gTs) (hd : decode cc pc = .ok (.putfield index, 3)) (kk : gw_V X (gw_P D gCl 46 ad (cE ad cI cB cC)) A nL rv (gw_u S 1 4 x) (pc + 3) lv rest ans) : gw_V X (gw_P D gCl 46 ad (cE ad cI cB cC)) A nL rv S pc lv (.int x :: .ref (ad 1) :: rest) ans := gw_putN F cin_Player cty_Player ctk_Player cnm_Player 1 (by decide) cE_Player rfl 4 (by decide) hl rfl rfl (ctk_Player 4 (by decide)) rfl rfl (Nat.le_of_ble_eq_true rfl) ((cE_Player).trans rfl) hd kk
theorem cg_Player_goingOn (F : gw_F X l cc nL ret own gTs rm D gCl (gTys cI cB cC cZ) 46 ad A) {index : Nat} (hl : Cond.fieldLink own index "StageMachine$Player" "goingOn" "Z" ∈ gTs) (hd : decode cc pc = .ok (.getfield index, 3)) (kk : gw_V X (gw_P D gCl 46 ad (cE ad cI cB cC)) A nL rv S (pc + 3) lv (.int (S 1 5) :: rest) ans) : gw_V X (gw_P D gCl 46 ad (cE ad cI cB cC)) A nL rv S pc lv (.ref (ad 1) :: rest) ans := gw_get F cin_Player 1 (by decide) cE_Player rfl 5 (by decide) hl rfl rfl hd kk
theorem cp_Player_goingOn (F : gw_F X l cc nL ret own gTs rm D gCl (gTys cI cB cC cZ) 46 ad A) {index : Nat} {x : Int32} (hl : Cond.fieldLink own index "StageMachine$Player" "goingOn" "Z" ∈ gTs) (hd : decode cc pc = .ok (.putfield index, 3)) (hn : narrow .boolean (.int x) = .int x) (hf : fits .boolean (.int x) = true) (kk : gw_V X (gw_P D gCl 46 ad (cE ad cI cB cC)) A nL rv (gw_u S 1 5 x) (pc + 3) lv rest ans) : gw_V X (gw_P D gCl 46 ad (cE ad cI cB cC)) A nL rv S pc lv (.int x :: .ref (ad 1) :: rest) ans := gw_put F cin_Player cty_Player ctk_Player cnm_Player 1 (by decide) cE_Player rfl 5 (by decide) hl rfl rfl (ctk_Player 5 (by decide)) hn hf (Nat.le_of_ble_eq_true rfl) ((cE_Player).trans rfl) hd kk
theorem cgN_Player_goingOn (F : gw_F X l cc nL ret own gTs rm D gCl (gTys cI cB cC cZ) 46 ad A) {index : Nat} {host : String} (hl : Cond.fieldLinkNest own index "StageMachine$Player" "goingOn" "Z" host ∈ gTs) (hd : decode cc pc = .ok (.getfield index, 3)) (kk : gw_V X (gw_P D gCl 46 ad (cE ad cI cB cC)) A nL rv S (pc + 3) lv (.int (S 1 5) :: rest) ans) : gw_V X (gw_P D gCl 46 ad (cE ad cI cB cC)) A nL rv S pc lv (.ref (ad 1) :: rest) ans := gw_getN F cin_Player 1 (by decide) cE_Player rfl 5 (by decide) hl rfl rfl hd kk
theorem cpN_Player_goingOn (F : gw_F X l cc nL ret own gTs rm D gCl (gTys cI cB cC cZ) 46 ad A) {index : Nat} {host : String} {x : Int32} (hl : Cond.fieldLinkNest own index "StageMachine$Player" "goingOn" "Z" host ∈ gTs) (hd : decode cc pc = .ok (.putfield index, 3)) (hn : narrow .boolean (.int x) = .int x) (hf : fits .boolean (.int x) = true) (kk : gw_V X (gw_P D gCl 46 ad (cE ad cI cB cC)) A nL rv (gw_u S 1 5 x) (pc + 3) lv rest ans) : gw_V X (gw_P D gCl 46 ad (cE ad cI cB cC)) A nL rv S pc lv (.int x :: .ref (ad 1) :: rest) ans := gw_putN F cin_Player cty_Player ctk_Player cnm_Player 1 (by decide) cE_Player rfl 5 (by decide) hl rfl rfl (ctk_Player 5 (by decide)) hn hf (Nat.le_of_ble_eq_true rfl) ((cE_Player).trans rfl) hd kk
theorem cg_Bytes_bytes (F : gw_F X l cc nL ret own gTs rm D gCl (gTys cI cB cC cZ) 46 ad A) {b : Nat} (h : b = 2 ∨ b = 7) {index : Nat} (hl : Cond.fieldLink own index "StageMachine$Bytes" "bytes" "[I" ∈ gTs) (hd : decode cc pc = .ok (.getfield index, 3)) (kk : gw_V X (gw_P D gCl 46 ad (cE ad cI cB cC)) A nL rv S (pc + 3) lv (.ref (ad (b + 1)) :: rest) ans) : gw_V X (gw_P D gCl 46 ad (cE ad cI cB cC)) A nL rv S pc lv (.ref (ad b) :: rest) ans := gw_get F cin_Bytes b (chi_Bytes h) (cE_Bytes h) rfl 0 (by decide) hl rfl rfl hd kk
theorem cgN_Bytes_bytes (F : gw_F X l cc nL ret own gTs rm D gCl (gTys cI cB cC cZ) 46 ad A) {b : Nat} (h : b = 2 ∨ b = 7) {index : Nat} {host : String} (hl : Cond.fieldLinkNest own index "StageMachine$Bytes" "bytes" "[I" host ∈ gTs) (hd : decode cc pc = .ok (.getfield index, 3)) (kk : gw_V X (gw_P D gCl 46 ad (cE ad cI cB cC)) A nL rv S (pc + 3) lv (.ref (ad (b + 1)) :: rest) ans) : gw_V X (gw_P D gCl 46 ad (cE ad cI cB cC)) A nL rv S pc lv (.ref (ad b) :: rest) ans := gw_getN F cin_Bytes b (chi_Bytes h) (cE_Bytes h) rfl 0 (by decide) hl rfl rfl hd kk
theorem cl_BArr (F : gw_F X l cc nL ret own gTs rm D gCl (gTys cI cB cC cZ) 46 ad A) {b : Nat} (h : b = 2 ∨ b = 7) {j : Int32} (hin : vp_in j 1024) (hd : decode cc pc = .ok (.iaload, 1)) (kk : gw_V X (gw_P D gCl 46 ad (cE ad cI cB cC)) A nL rv S (pc + 1) lv (.int (S (b + 1) j.toNatClampNeg) :: rest) ans) : gw_V X (gw_P D gCl 46 ad (cE ad cI cB cC)) A nL rv S pc lv (.int j :: .ref (ad (b + 1)) :: rest) ans := gw_iald F (b + 1) 0 (chi_BArr h) (cE_BArr h) rfl hin hd kk
theorem cs_BArr (F : gw_F X l cc nL ret own gTs rm D gCl (gTys cI cB cC cZ) 46 ad A) {b : Nat} (h : b = 2 ∨ b = 7) {j x : Int32} (hin : vp_in j 1024) (hd : decode cc pc = .ok (.iastore, 1)) (kk : gw_V X (gw_P D gCl 46 ad (cE ad cI cB cC)) A nL rv (gw_u S (b + 1) j.toNatClampNeg x) (pc + 1) lv rest ans) : gw_V X (gw_P D gCl 46 ad (cE ad cI cB cC)) A nL rv S pc lv (.int x :: .int j :: .ref (ad (b + 1)) :: rest) ans := gw_iast F (b + 1) 0 (chi_BArr h) (cE_BArr h) rfl hin (cE_BArr h) hd kk
theorem cn_BArr (F : gw_F X l cc nL ret own gTs rm D gCl (gTys cI cB cC cZ) 46 ad A) {b : Nat} (h : b = 2 ∨ b = 7) (hd : decode cc pc = .ok (.arraylength, 1)) (kk : gw_V X (gw_P D gCl 46 ad (cE ad cI cB cC)) A nL rv S (pc + 1) lv (.int (1024 : Int32) :: rest) ans) : gw_V X (gw_P D gCl 46 ad (cE ad cI cB cC)) A nL rv S pc lv (.ref (ad (b + 1)) :: rest) ans := gw_alen F (b + 1) 0 (chi_BArr h) (cE_BArr h) rfl rfl hd kk
theorem cl_Vars (F : gw_F X l cc nL ret own gTs rm D gCl (gTys cI cB cC cZ) 46 ad A) {j : Int32} (hin : vp_in j 32) (hd : decode cc pc = .ok (.iaload, 1)) (kk : gw_V X (gw_P D gCl 46 ad (cE ad cI cB cC)) A nL rv S (pc + 1) lv (.int (S 4 j.toNatClampNeg) :: rest) ans) : gw_V X (gw_P D gCl 46 ad (cE ad cI cB cC)) A nL rv S pc lv (.int j :: .ref (ad 4) :: rest) ans := gw_iald F 4 0 (by decide) cE_Vars rfl hin hd kk
theorem cs_Vars (F : gw_F X l cc nL ret own gTs rm D gCl (gTys cI cB cC cZ) 46 ad A) {j x : Int32} (hin : vp_in j 32) (hd : decode cc pc = .ok (.iastore, 1)) (kk : gw_V X (gw_P D gCl 46 ad (cE ad cI cB cC)) A nL rv (gw_u S 4 j.toNatClampNeg x) (pc + 1) lv rest ans) : gw_V X (gw_P D gCl 46 ad (cE ad cI cB cC)) A nL rv S pc lv (.int x :: .int j :: .ref (ad 4) :: rest) ans := gw_iast F 4 0 (by decide) cE_Vars rfl hin cE_Vars hd kk
theorem cn_Vars (F : gw_F X l cc nL ret own gTs rm D gCl (gTys cI cB cC cZ) 46 ad A) (hd : decode cc pc = .ok (.arraylength, 1)) (kk : gw_V X (gw_P D gCl 46 ad (cE ad cI cB cC)) A nL rv S (pc + 1) lv (.int (32 : Int32) :: rest) ans) : gw_V X (gw_P D gCl 46 ad (cE ad cI cB cC)) A nL rv S pc lv (.ref (ad 4) :: rest) ans := gw_alen F 4 0 (by decide) cE_Vars rfl rfl hd kk
theorem cl_Chans (F : gw_F X l cc nL ret own gTs rm D gCl (gTys cI cB cC cZ) 46 ad A) {j : Int32} (hin : vp_in j 16) (hd : decode cc pc = .ok (.aaload, 1)) (kk : gw_V X (gw_P D gCl 46 ad (cE ad cI cB cC)) A nL rv S (pc + 1) lv (.ref (ad (j.toNatClampNeg + 14)) :: rest) ans) : gw_V X (gw_P D gCl 46 ad (cE ad cI cB cC)) A nL rv S pc lv (.int j :: .ref (ad 5) :: rest) ans := gw_aald F 5 2 (by decide) cE_Chans rfl hin rfl hd kk
theorem cg_Painter_shapes (F : gw_F X l cc nL ret own gTs rm D gCl (gTys cI cB cC cZ) 46 ad A) {index : Nat} (hl : Cond.fieldLink own index "StageMachine$Painter" "shapes" "LStageMachine$Bytes;" ∈ gTs) (hd : decode cc pc = .ok (.getfield index, 3)) (kk : gw_V X (gw_P D gCl 46 ad (cE ad cI cB cC)) A nL rv S (pc + 3) lv (.ref (ad 7) :: rest) ans) : gw_V X (gw_P D gCl 46 ad (cE ad cI cB cC)) A nL rv S pc lv (.ref (ad 6) :: rest) ans := gw_get F cin_Painter 6 (by decide) cE_Painter rfl 0 (by decide) hl rfl rfl hd kk
theorem cgN_Painter_shapes (F : gw_F X l cc nL ret own gTs rm D gCl (gTys cI cB cC cZ) 46 ad A) {index : Nat} {host : String} (hl : Cond.fieldLinkNest own index "StageMachine$Painter" "shapes" "LStageMachine$Bytes;" host ∈ gTs) (hd : decode cc pc = .ok (.getfield index, 3)) (kk : gw_V X (gw_P D gCl 46 ad (cE ad cI cB cC)) A nL rv S (pc + 3) lv (.ref (ad 7) :: rest) ans) : gw_V X (gw_P D gCl 46 ad (cE ad cI cB cC)) A nL rv S pc lv (.ref (ad 6) :: rest) ans := gw_getN F cin_Painter 6 (by decide) cE_Painter rfl 0 (by decide) hl rfl rfl hd kk
theorem cg_Painter_pages (F : gw_F X l cc nL ret own gTs rm D gCl (gTys cI cB cC cZ) 46 ad A) {index : Nat} (hl : Cond.fieldLink own index "StageMachine$Painter" "pages" "LStageMachine$Pages;" ∈ gTs) (hd : decode cc pc = .ok (.getfield index, 3)) (kk : gw_V X (gw_P D gCl 46 ad (cE ad cI cB cC)) A nL rv S (pc + 3) lv (.ref (ad 9) :: rest) ans) : gw_V X (gw_P D gCl 46 ad (cE ad cI cB cC)) A nL rv S pc lv (.ref (ad 6) :: rest) ans := gw_get F cin_Painter 6 (by decide) cE_Painter rfl 1 (by decide) hl rfl rfl hd kk
theorem cgN_Painter_pages (F : gw_F X l cc nL ret own gTs rm D gCl (gTys cI cB cC cZ) 46 ad A) {index : Nat} {host : String} (hl : Cond.fieldLinkNest own index "StageMachine$Painter" "pages" "LStageMachine$Pages;" host ∈ gTs) (hd : decode cc pc = .ok (.getfield index, 3)) (kk : gw_V X (gw_P D gCl 46 ad (cE ad cI cB cC)) A nL rv S (pc + 3) lv (.ref (ad 9) :: rest) ans) : gw_V X (gw_P D gCl 46 ad (cE ad cI cB cC)) A nL rv S pc lv (.ref (ad 6) :: rest) ans := gw_getN F cin_Painter 6 (by decide) cE_Painter rfl 1 (by decide) hl rfl rfl hd kk
theorem cg_Painter_rightXs (F : gw_F X l cc nL ret own gTs rm D gCl (gTys cI cB cC cZ) 46 ad A) {index : Nat} (hl : Cond.fieldLink own index "StageMachine$Painter" "rightXs" "[I" ∈ gTs) (hd : decode cc pc = .ok (.getfield index, 3)) (kk : gw_V X (gw_P D gCl 46 ad (cE ad cI cB cC)) A nL rv S (pc + 3) lv (.ref (ad 11) :: rest) ans) : gw_V X (gw_P D gCl 46 ad (cE ad cI cB cC)) A nL rv S pc lv (.ref (ad 6) :: rest) ans := gw_get F cin_Painter 6 (by decide) cE_Painter rfl 2 (by decide) hl rfl rfl hd kk
theorem cgN_Painter_rightXs (F : gw_F X l cc nL ret own gTs rm D gCl (gTys cI cB cC cZ) 46 ad A) {index : Nat} {host : String} (hl : Cond.fieldLinkNest own index "StageMachine$Painter" "rightXs" "[I" host ∈ gTs) (hd : decode cc pc = .ok (.getfield index, 3)) (kk : gw_V X (gw_P D gCl 46 ad (cE ad cI cB cC)) A nL rv S (pc + 3) lv (.ref (ad 11) :: rest) ans) : gw_V X (gw_P D gCl 46 ad (cE ad cI cB cC)) A nL rv S pc lv (.ref (ad 6) :: rest) ans := gw_getN F cin_Painter 6 (by decide) cE_Painter rfl 2 (by decide) hl rfl rfl hd kk
theorem cg_Painter_leftXs (F : gw_F X l cc nL ret own gTs rm D gCl (gTys cI cB cC cZ) 46 ad A) {index : Nat} (hl : Cond.fieldLink own index "StageMachine$Painter" "leftXs" "[I" ∈ gTs) (hd : decode cc pc = .ok (.getfield index, 3)) (kk : gw_V X (gw_P D gCl 46 ad (cE ad cI cB cC)) A nL rv S (pc + 3) lv (.ref (ad 12) :: rest) ans) : gw_V X (gw_P D gCl 46 ad (cE ad cI cB cC)) A nL rv S pc lv (.ref (ad 6) :: rest) ans := gw_get F cin_Painter 6 (by decide) cE_Painter rfl 3 (by decide) hl rfl rfl hd kk
theorem cgN_Painter_leftXs (F : gw_F X l cc nL ret own gTs rm D gCl (gTys cI cB cC cZ) 46 ad A) {index : Nat} {host : String} (hl : Cond.fieldLinkNest own index "StageMachine$Painter" "leftXs" "[I" host ∈ gTs) (hd : decode cc pc = .ok (.getfield index, 3)) (kk : gw_V X (gw_P D gCl 46 ad (cE ad cI cB cC)) A nL rv S (pc + 3) lv (.ref (ad 12) :: rest) ans) : gw_V X (gw_P D gCl 46 ad (cE ad cI cB cC)) A nL rv S pc lv (.ref (ad 6) :: rest) ans := gw_getN F cin_Painter 6 (by decide) cE_Painter rfl 3 (by decide) hl rfl rfl hd kk
theorem cg_Painter_pairYs (F : gw_F X l cc nL ret own gTs rm D gCl (gTys cI cB cC cZ) 46 ad A) {index : Nat} (hl : Cond.fieldLink own index "StageMachine$Painter" "pairYs" "[I" ∈ gTs) (hd : decode cc pc = .ok (.getfield index, 3)) (kk : gw_V X (gw_P D gCl 46 ad (cE ad cI cB cC)) A nL rv S (pc + 3) lv (.ref (ad 13) :: rest) ans) : gw_V X (gw_P D gCl 46 ad (cE ad cI cB cC)) A nL rv S pc lv (.ref (ad 6) :: rest) ans := gw_get F cin_Painter 6 (by decide) cE_Painter rfl 4 (by decide) hl rfl rfl hd kk
theorem cgN_Painter_pairYs (F : gw_F X l cc nL ret own gTs rm D gCl (gTys cI cB cC cZ) 46 ad A) {index : Nat} {host : String} (hl : Cond.fieldLinkNest own index "StageMachine$Painter" "pairYs" "[I" host ∈ gTs) (hd : decode cc pc = .ok (.getfield index, 3)) (kk : gw_V X (gw_P D gCl 46 ad (cE ad cI cB cC)) A nL rv S (pc + 3) lv (.ref (ad 13) :: rest) ans) : gw_V X (gw_P D gCl 46 ad (cE ad cI cB cC)) A nL rv S pc lv (.ref (ad 6) :: rest) ans := gw_getN F cin_Painter 6 (by decide) cE_Painter rfl 4 (by decide) hl rfl rfl hd kk
theorem cg_Painter_begunInDraw (F : gw_F X l cc nL ret own gTs rm D gCl (gTys cI cB cC cZ) 46 ad A) {index : Nat} (hl : Cond.fieldLink own index "StageMachine$Painter" "begunInDraw" "I" ∈ gTs) (hd : decode cc pc = .ok (.getfield index, 3)) (kk : gw_V X (gw_P D gCl 46 ad (cE ad cI cB cC)) A nL rv S (pc + 3) lv (.int (S 6 5) :: rest) ans) : gw_V X (gw_P D gCl 46 ad (cE ad cI cB cC)) A nL rv S pc lv (.ref (ad 6) :: rest) ans := gw_get F cin_Painter 6 (by decide) cE_Painter rfl 5 (by decide) hl rfl rfl hd kk
theorem cp_Painter_begunInDraw (F : gw_F X l cc nL ret own gTs rm D gCl (gTys cI cB cC cZ) 46 ad A) {index : Nat} {x : Int32} (hl : Cond.fieldLink own index "StageMachine$Painter" "begunInDraw" "I" ∈ gTs) (hd : decode cc pc = .ok (.putfield index, 3)) (kk : gw_V X (gw_P D gCl 46 ad (cE ad cI cB cC)) A nL rv (gw_u S 6 5 x) (pc + 3) lv rest ans) : gw_V X (gw_P D gCl 46 ad (cE ad cI cB cC)) A nL rv S pc lv (.int x :: .ref (ad 6) :: rest) ans := gw_put F cin_Painter cty_Painter ctk_Painter cnm_Painter 6 (by decide) cE_Painter rfl 5 (by decide) hl rfl rfl (ctk_Painter 5 (by decide)) rfl rfl (Nat.le_of_ble_eq_true rfl) ((cE_Painter).trans rfl) hd kk
theorem cgN_Painter_begunInDraw (F : gw_F X l cc nL ret own gTs rm D gCl (gTys cI cB cC cZ) 46 ad A) {index : Nat} {host : String} (hl : Cond.fieldLinkNest own index "StageMachine$Painter" "begunInDraw" "I" host ∈ gTs) (hd : decode cc pc = .ok (.getfield index, 3)) (kk : gw_V X (gw_P D gCl 46 ad (cE ad cI cB cC)) A nL rv S (pc + 3) lv (.int (S 6 5) :: rest) ans) : gw_V X (gw_P D gCl 46 ad (cE ad cI cB cC)) A nL rv S pc lv (.ref (ad 6) :: rest) ans := gw_getN F cin_Painter 6 (by decide) cE_Painter rfl 5 (by decide) hl rfl rfl hd kk
theorem cpN_Painter_begunInDraw (F : gw_F X l cc nL ret own gTs rm D gCl (gTys cI cB cC cZ) 46 ad A) {index : Nat} {host : String} {x : Int32} (hl : Cond.fieldLinkNest own index "StageMachine$Painter" "begunInDraw" "I" host ∈ gTs) (hd : decode cc pc = .ok (.putfield index, 3)) (kk : gw_V X (gw_P D gCl 46 ad (cE ad cI cB cC)) A nL rv (gw_u S 6 5 x) (pc + 3) lv rest ans) : gw_V X (gw_P D gCl 46 ad (cE ad cI cB cC)) A nL rv S pc lv (.int x :: .ref (ad 6) :: rest) ans := gw_putN F cin_Painter cty_Painter ctk_Painter cnm_Painter 6 (by decide) cE_Painter rfl 5 (by decide) hl rfl rfl (ctk_Painter 5 (by decide)) rfl rfl (Nat.le_of_ble_eq_true rfl) ((cE_Painter).trans rfl) hd kk
theorem cg_Painter_begunInFrame (F : gw_F X l cc nL ret own gTs rm D gCl (gTys cI cB cC cZ) 46 ad A) {index : Nat} (hl : Cond.fieldLink own index "StageMachine$Painter" "begunInFrame" "I" ∈ gTs) (hd : decode cc pc = .ok (.getfield index, 3)) (kk : gw_V X (gw_P D gCl 46 ad (cE ad cI cB cC)) A nL rv S (pc + 3) lv (.int (S 6 6) :: rest) ans) : gw_V X (gw_P D gCl 46 ad (cE ad cI cB cC)) A nL rv S pc lv (.ref (ad 6) :: rest) ans := gw_get F cin_Painter 6 (by decide) cE_Painter rfl 6 (by decide) hl rfl rfl hd kk
theorem cp_Painter_begunInFrame (F : gw_F X l cc nL ret own gTs rm D gCl (gTys cI cB cC cZ) 46 ad A) {index : Nat} {x : Int32} (hl : Cond.fieldLink own index "StageMachine$Painter" "begunInFrame" "I" ∈ gTs) (hd : decode cc pc = .ok (.putfield index, 3)) (kk : gw_V X (gw_P D gCl 46 ad (cE ad cI cB cC)) A nL rv (gw_u S 6 6 x) (pc + 3) lv rest ans) : gw_V X (gw_P D gCl 46 ad (cE ad cI cB cC)) A nL rv S pc lv (.int x :: .ref (ad 6) :: rest) ans := gw_put F cin_Painter cty_Painter ctk_Painter cnm_Painter 6 (by decide) cE_Painter rfl 6 (by decide) hl rfl rfl (ctk_Painter 6 (by decide)) rfl rfl (Nat.le_of_ble_eq_true rfl) ((cE_Painter).trans rfl) hd kk
theorem cgN_Painter_begunInFrame (F : gw_F X l cc nL ret own gTs rm D gCl (gTys cI cB cC cZ) 46 ad A) {index : Nat} {host : String} (hl : Cond.fieldLinkNest own index "StageMachine$Painter" "begunInFrame" "I" host ∈ gTs) (hd : decode cc pc = .ok (.getfield index, 3)) (kk : gw_V X (gw_P D gCl 46 ad (cE ad cI cB cC)) A nL rv S (pc + 3) lv (.int (S 6 6) :: rest) ans) : gw_V X (gw_P D gCl 46 ad (cE ad cI cB cC)) A nL rv S pc lv (.ref (ad 6) :: rest) ans := gw_getN F cin_Painter 6 (by decide) cE_Painter rfl 6 (by decide) hl rfl rfl hd kk
theorem cpN_Painter_begunInFrame (F : gw_F X l cc nL ret own gTs rm D gCl (gTys cI cB cC cZ) 46 ad A) {index : Nat} {host : String} {x : Int32} (hl : Cond.fieldLinkNest own index "StageMachine$Painter" "begunInFrame" "I" host ∈ gTs) (hd : decode cc pc = .ok (.putfield index, 3)) (kk : gw_V X (gw_P D gCl 46 ad (cE ad cI cB cC)) A nL rv (gw_u S 6 6 x) (pc + 3) lv rest ans) : gw_V X (gw_P D gCl 46 ad (cE ad cI cB cC)) A nL rv S pc lv (.int x :: .ref (ad 6) :: rest) ans := gw_putN F cin_Painter cty_Painter ctk_Painter cnm_Painter 6 (by decide) cE_Painter rfl 6 (by decide) hl rfl rfl (ctk_Painter 6 (by decide)) rfl rfl (Nat.le_of_ble_eq_true rfl) ((cE_Painter).trans rfl) hd kk
theorem cg_Painter_rowsInFrame (F : gw_F X l cc nL ret own gTs rm D gCl (gTys cI cB cC cZ) 46 ad A) {index : Nat} (hl : Cond.fieldLink own index "StageMachine$Painter" "rowsInFrame" "I" ∈ gTs) (hd : decode cc pc = .ok (.getfield index, 3)) (kk : gw_V X (gw_P D gCl 46 ad (cE ad cI cB cC)) A nL rv S (pc + 3) lv (.int (S 6 7) :: rest) ans) : gw_V X (gw_P D gCl 46 ad (cE ad cI cB cC)) A nL rv S pc lv (.ref (ad 6) :: rest) ans := gw_get F cin_Painter 6 (by decide) cE_Painter rfl 7 (by decide) hl rfl rfl hd kk
theorem cp_Painter_rowsInFrame (F : gw_F X l cc nL ret own gTs rm D gCl (gTys cI cB cC cZ) 46 ad A) {index : Nat} {x : Int32} (hl : Cond.fieldLink own index "StageMachine$Painter" "rowsInFrame" "I" ∈ gTs) (hd : decode cc pc = .ok (.putfield index, 3)) (kk : gw_V X (gw_P D gCl 46 ad (cE ad cI cB cC)) A nL rv (gw_u S 6 7 x) (pc + 3) lv rest ans) : gw_V X (gw_P D gCl 46 ad (cE ad cI cB cC)) A nL rv S pc lv (.int x :: .ref (ad 6) :: rest) ans := gw_put F cin_Painter cty_Painter ctk_Painter cnm_Painter 6 (by decide) cE_Painter rfl 7 (by decide) hl rfl rfl (ctk_Painter 7 (by decide)) rfl rfl (Nat.le_of_ble_eq_true rfl) ((cE_Painter).trans rfl) hd kk
theorem cgN_Painter_rowsInFrame (F : gw_F X l cc nL ret own gTs rm D gCl (gTys cI cB cC cZ) 46 ad A) {index : Nat} {host : String} (hl : Cond.fieldLinkNest own index "StageMachine$Painter" "rowsInFrame" "I" host ∈ gTs) (hd : decode cc pc = .ok (.getfield index, 3)) (kk : gw_V X (gw_P D gCl 46 ad (cE ad cI cB cC)) A nL rv S (pc + 3) lv (.int (S 6 7) :: rest) ans) : gw_V X (gw_P D gCl 46 ad (cE ad cI cB cC)) A nL rv S pc lv (.ref (ad 6) :: rest) ans := gw_getN F cin_Painter 6 (by decide) cE_Painter rfl 7 (by decide) hl rfl rfl hd kk
theorem cpN_Painter_rowsInFrame (F : gw_F X l cc nL ret own gTs rm D gCl (gTys cI cB cC cZ) 46 ad A) {index : Nat} {host : String} {x : Int32} (hl : Cond.fieldLinkNest own index "StageMachine$Painter" "rowsInFrame" "I" host ∈ gTs) (hd : decode cc pc = .ok (.putfield index, 3)) (kk : gw_V X (gw_P D gCl 46 ad (cE ad cI cB cC)) A nL rv (gw_u S 6 7 x) (pc + 3) lv rest ans) : gw_V X (gw_P D gCl 46 ad (cE ad cI cB cC)) A nL rv S pc lv (.int x :: .ref (ad 6) :: rest) ans := gw_putN F cin_Painter cty_Painter ctk_Painter cnm_Painter 6 (by decide) cE_Painter rfl 7 (by decide) hl rfl rfl (ctk_Painter 7 (by decide)) rfl rfl (Nat.le_of_ble_eq_true rfl) ((cE_Painter).trans rfl) hd kk
theorem cg_Pages_pixels (F : gw_F X l cc nL ret own gTs rm D gCl (gTys cI cB cC cZ) 46 ad A) {index : Nat} (hl : Cond.fieldLink own index "StageMachine$Pages" "pixels" "[B" ∈ gTs) (hd : decode cc pc = .ok (.getfield index, 3)) (kk : gw_V X (gw_P D gCl 46 ad (cE ad cI cB cC)) A nL rv S (pc + 3) lv (.ref (ad 10) :: rest) ans) : gw_V X (gw_P D gCl 46 ad (cE ad cI cB cC)) A nL rv S pc lv (.ref (ad 9) :: rest) ans := gw_get F cin_Pages 9 (by decide) cE_Pages rfl 0 (by decide) hl rfl rfl hd kk
theorem cgN_Pages_pixels (F : gw_F X l cc nL ret own gTs rm D gCl (gTys cI cB cC cZ) 46 ad A) {index : Nat} {host : String} (hl : Cond.fieldLinkNest own index "StageMachine$Pages" "pixels" "[B" host ∈ gTs) (hd : decode cc pc = .ok (.getfield index, 3)) (kk : gw_V X (gw_P D gCl 46 ad (cE ad cI cB cC)) A nL rv S (pc + 3) lv (.ref (ad 10) :: rest) ans) : gw_V X (gw_P D gCl 46 ad (cE ad cI cB cC)) A nL rv S pc lv (.ref (ad 9) :: rest) ans := gw_getN F cin_Pages 9 (by decide) cE_Pages rfl 0 (by decide) hl rfl rfl hd kk
theorem cg_Pages_working (F : gw_F X l cc nL ret own gTs rm D gCl (gTys cI cB cC cZ) 46 ad A) {index : Nat} (hl : Cond.fieldLink own index "StageMachine$Pages" "working" "I" ∈ gTs) (hd : decode cc pc = .ok (.getfield index, 3)) (kk : gw_V X (gw_P D gCl 46 ad (cE ad cI cB cC)) A nL rv S (pc + 3) lv (.int (S 9 1) :: rest) ans) : gw_V X (gw_P D gCl 46 ad (cE ad cI cB cC)) A nL rv S pc lv (.ref (ad 9) :: rest) ans := gw_get F cin_Pages 9 (by decide) cE_Pages rfl 1 (by decide) hl rfl rfl hd kk
theorem cp_Pages_working (F : gw_F X l cc nL ret own gTs rm D gCl (gTys cI cB cC cZ) 46 ad A) {index : Nat} {x : Int32} (hl : Cond.fieldLink own index "StageMachine$Pages" "working" "I" ∈ gTs) (hd : decode cc pc = .ok (.putfield index, 3)) (kk : gw_V X (gw_P D gCl 46 ad (cE ad cI cB cC)) A nL rv (gw_u S 9 1 x) (pc + 3) lv rest ans) : gw_V X (gw_P D gCl 46 ad (cE ad cI cB cC)) A nL rv S pc lv (.int x :: .ref (ad 9) :: rest) ans := gw_put F cin_Pages cty_Pages ctk_Pages cnm_Pages 9 (by decide) cE_Pages rfl 1 (by decide) hl rfl rfl (ctk_Pages 1 (by decide)) rfl rfl (Nat.le_of_ble_eq_true rfl) ((cE_Pages).trans rfl) hd kk
theorem cgN_Pages_working (F : gw_F X l cc nL ret own gTs rm D gCl (gTys cI cB cC cZ) 46 ad A) {index : Nat} {host : String} (hl : Cond.fieldLinkNest own index "StageMachine$Pages" "working" "I" host ∈ gTs) (hd : decode cc pc = .ok (.getfield index, 3)) (kk : gw_V X (gw_P D gCl 46 ad (cE ad cI cB cC)) A nL rv S (pc + 3) lv (.int (S 9 1) :: rest) ans) : gw_V X (gw_P D gCl 46 ad (cE ad cI cB cC)) A nL rv S pc lv (.ref (ad 9) :: rest) ans := gw_getN F cin_Pages 9 (by decide) cE_Pages rfl 1 (by decide) hl rfl rfl hd kk
theorem cpN_Pages_working (F : gw_F X l cc nL ret own gTs rm D gCl (gTys cI cB cC cZ) 46 ad A) {index : Nat} {host : String} {x : Int32} (hl : Cond.fieldLinkNest own index "StageMachine$Pages" "working" "I" host ∈ gTs) (hd : decode cc pc = .ok (.putfield index, 3)) (kk : gw_V X (gw_P D gCl 46 ad (cE ad cI cB cC)) A nL rv (gw_u S 9 1 x) (pc + 3) lv rest ans) : gw_V X (gw_P D gCl 46 ad (cE ad cI cB cC)) A nL rv S pc lv (.int x :: .ref (ad 9) :: rest) ans := gw_putN F cin_Pages cty_Pages ctk_Pages cnm_Pages 9 (by decide) cE_Pages rfl 1 (by decide) hl rfl rfl (ctk_Pages 1 (by decide)) rfl rfl (Nat.le_of_ble_eq_true rfl) ((cE_Pages).trans rfl) hd kk
theorem cg_Pages_shown (F : gw_F X l cc nL ret own gTs rm D gCl (gTys cI cB cC cZ) 46 ad A) {index : Nat} (hl : Cond.fieldLink own index "StageMachine$Pages" "shown" "I" ∈ gTs) (hd : decode cc pc = .ok (.getfield index, 3)) (kk : gw_V X (gw_P D gCl 46 ad (cE ad cI cB cC)) A nL rv S (pc + 3) lv (.int (S 9 2) :: rest) ans) : gw_V X (gw_P D gCl 46 ad (cE ad cI cB cC)) A nL rv S pc lv (.ref (ad 9) :: rest) ans := gw_get F cin_Pages 9 (by decide) cE_Pages rfl 2 (by decide) hl rfl rfl hd kk
theorem cp_Pages_shown (F : gw_F X l cc nL ret own gTs rm D gCl (gTys cI cB cC cZ) 46 ad A) {index : Nat} {x : Int32} (hl : Cond.fieldLink own index "StageMachine$Pages" "shown" "I" ∈ gTs) (hd : decode cc pc = .ok (.putfield index, 3)) (kk : gw_V X (gw_P D gCl 46 ad (cE ad cI cB cC)) A nL rv (gw_u S 9 2 x) (pc + 3) lv rest ans) : gw_V X (gw_P D gCl 46 ad (cE ad cI cB cC)) A nL rv S pc lv (.int x :: .ref (ad 9) :: rest) ans := gw_put F cin_Pages cty_Pages ctk_Pages cnm_Pages 9 (by decide) cE_Pages rfl 2 (by decide) hl rfl rfl (ctk_Pages 2 (by decide)) rfl rfl (Nat.le_of_ble_eq_true rfl) ((cE_Pages).trans rfl) hd kk
theorem cgN_Pages_shown (F : gw_F X l cc nL ret own gTs rm D gCl (gTys cI cB cC cZ) 46 ad A) {index : Nat} {host : String} (hl : Cond.fieldLinkNest own index "StageMachine$Pages" "shown" "I" host ∈ gTs) (hd : decode cc pc = .ok (.getfield index, 3)) (kk : gw_V X (gw_P D gCl 46 ad (cE ad cI cB cC)) A nL rv S (pc + 3) lv (.int (S 9 2) :: rest) ans) : gw_V X (gw_P D gCl 46 ad (cE ad cI cB cC)) A nL rv S pc lv (.ref (ad 9) :: rest) ans := gw_getN F cin_Pages 9 (by decide) cE_Pages rfl 2 (by decide) hl rfl rfl hd kk
theorem cpN_Pages_shown (F : gw_F X l cc nL ret own gTs rm D gCl (gTys cI cB cC cZ) 46 ad A) {index : Nat} {host : String} {x : Int32} (hl : Cond.fieldLinkNest own index "StageMachine$Pages" "shown" "I" host ∈ gTs) (hd : decode cc pc = .ok (.putfield index, 3)) (kk : gw_V X (gw_P D gCl 46 ad (cE ad cI cB cC)) A nL rv (gw_u S 9 2 x) (pc + 3) lv rest ans) : gw_V X (gw_P D gCl 46 ad (cE ad cI cB cC)) A nL rv S pc lv (.int x :: .ref (ad 9) :: rest) ans := gw_putN F cin_Pages cty_Pages ctk_Pages cnm_Pages 9 (by decide) cE_Pages rfl 2 (by decide) hl rfl rfl (ctk_Pages 2 (by decide)) rfl rfl (Nat.le_of_ble_eq_true rfl) ((cE_Pages).trans rfl) hd kk
theorem cl_Pix (F : gw_F X l cc nL ret own gTs rm D gCl (gTys cI cB cC cZ) 46 ad A) {j : Int32} (hin : vp_in j 10240) (hd : decode cc pc = .ok (.baload, 1)) (kk : gw_V X (gw_P D gCl 46 ad (cE ad cI cB cC)) A nL rv S (pc + 1) lv (.int (S 10 j.toNatClampNeg) :: rest) ans) : gw_V X (gw_P D gCl 46 ad (cE ad cI cB cC)) A nL rv S pc lv (.int j :: .ref (ad 10) :: rest) ans := gw_bald F 10 1 (by decide) cE_Pix rfl hin hd kk
theorem cs_Pix (F : gw_F X l cc nL ret own gTs rm D gCl (gTys cI cB cC cZ) 46 ad A) {j x : Int32} (hin : vp_in j 10240) (hd : decode cc pc = .ok (.bastore, 1)) (kk : gw_V X (gw_P D gCl 46 ad (cE ad cI cB cC)) A nL rv (gw_u S 10 j.toNatClampNeg (vp_nar .byte x)) (pc + 1) lv rest ans) : gw_V X (gw_P D gCl 46 ad (cE ad cI cB cC)) A nL rv S pc lv (.int x :: .int j :: .ref (ad 10) :: rest) ans := gw_bast F 10 1 (by decide) cE_Pix rfl hin cE_Pix hd kk
theorem cn_Pix (F : gw_F X l cc nL ret own gTs rm D gCl (gTys cI cB cC cZ) 46 ad A) (hd : decode cc pc = .ok (.arraylength, 1)) (kk : gw_V X (gw_P D gCl 46 ad (cE ad cI cB cC)) A nL rv S (pc + 1) lv (.int (10240 : Int32) :: rest) ans) : gw_V X (gw_P D gCl 46 ad (cE ad cI cB cC)) A nL rv S pc lv (.ref (ad 10) :: rest) ans := gw_alen F 10 1 (by decide) cE_Pix rfl rfl hd kk
theorem cl_RXs (F : gw_F X l cc nL ret own gTs rm D gCl (gTys cI cB cC cZ) 46 ad A) {j : Int32} (hin : vp_in j 16) (hd : decode cc pc = .ok (.iaload, 1)) (kk : gw_V X (gw_P D gCl 46 ad (cE ad cI cB cC)) A nL rv S (pc + 1) lv (.int (S 11 j.toNatClampNeg) :: rest) ans) : gw_V X (gw_P D gCl 46 ad (cE ad cI cB cC)) A nL rv S pc lv (.int j :: .ref (ad 11) :: rest) ans := gw_iald F 11 0 (by decide) cE_RXs rfl hin hd kk
theorem cs_RXs (F : gw_F X l cc nL ret own gTs rm D gCl (gTys cI cB cC cZ) 46 ad A) {j x : Int32} (hin : vp_in j 16) (hd : decode cc pc = .ok (.iastore, 1)) (kk : gw_V X (gw_P D gCl 46 ad (cE ad cI cB cC)) A nL rv (gw_u S 11 j.toNatClampNeg x) (pc + 1) lv rest ans) : gw_V X (gw_P D gCl 46 ad (cE ad cI cB cC)) A nL rv S pc lv (.int x :: .int j :: .ref (ad 11) :: rest) ans := gw_iast F 11 0 (by decide) cE_RXs rfl hin cE_RXs hd kk
theorem cn_RXs (F : gw_F X l cc nL ret own gTs rm D gCl (gTys cI cB cC cZ) 46 ad A) (hd : decode cc pc = .ok (.arraylength, 1)) (kk : gw_V X (gw_P D gCl 46 ad (cE ad cI cB cC)) A nL rv S (pc + 1) lv (.int (16 : Int32) :: rest) ans) : gw_V X (gw_P D gCl 46 ad (cE ad cI cB cC)) A nL rv S pc lv (.ref (ad 11) :: rest) ans := gw_alen F 11 0 (by decide) cE_RXs rfl rfl hd kk
theorem cl_LXs (F : gw_F X l cc nL ret own gTs rm D gCl (gTys cI cB cC cZ) 46 ad A) {j : Int32} (hin : vp_in j 16) (hd : decode cc pc = .ok (.iaload, 1)) (kk : gw_V X (gw_P D gCl 46 ad (cE ad cI cB cC)) A nL rv S (pc + 1) lv (.int (S 12 j.toNatClampNeg) :: rest) ans) : gw_V X (gw_P D gCl 46 ad (cE ad cI cB cC)) A nL rv S pc lv (.int j :: .ref (ad 12) :: rest) ans := gw_iald F 12 0 (by decide) cE_LXs rfl hin hd kk
theorem cs_LXs (F : gw_F X l cc nL ret own gTs rm D gCl (gTys cI cB cC cZ) 46 ad A) {j x : Int32} (hin : vp_in j 16) (hd : decode cc pc = .ok (.iastore, 1)) (kk : gw_V X (gw_P D gCl 46 ad (cE ad cI cB cC)) A nL rv (gw_u S 12 j.toNatClampNeg x) (pc + 1) lv rest ans) : gw_V X (gw_P D gCl 46 ad (cE ad cI cB cC)) A nL rv S pc lv (.int x :: .int j :: .ref (ad 12) :: rest) ans := gw_iast F 12 0 (by decide) cE_LXs rfl hin cE_LXs hd kk
theorem cn_LXs (F : gw_F X l cc nL ret own gTs rm D gCl (gTys cI cB cC cZ) 46 ad A) (hd : decode cc pc = .ok (.arraylength, 1)) (kk : gw_V X (gw_P D gCl 46 ad (cE ad cI cB cC)) A nL rv S (pc + 1) lv (.int (16 : Int32) :: rest) ans) : gw_V X (gw_P D gCl 46 ad (cE ad cI cB cC)) A nL rv S pc lv (.ref (ad 12) :: rest) ans := gw_alen F 12 0 (by decide) cE_LXs rfl rfl hd kk
theorem cl_PYs (F : gw_F X l cc nL ret own gTs rm D gCl (gTys cI cB cC cZ) 46 ad A) {j : Int32} (hin : vp_in j 16) (hd : decode cc pc = .ok (.iaload, 1)) (kk : gw_V X (gw_P D gCl 46 ad (cE ad cI cB cC)) A nL rv S (pc + 1) lv (.int (S 13 j.toNatClampNeg) :: rest) ans) : gw_V X (gw_P D gCl 46 ad (cE ad cI cB cC)) A nL rv S pc lv (.int j :: .ref (ad 13) :: rest) ans := gw_iald F 13 0 (by decide) cE_PYs rfl hin hd kk
theorem cs_PYs (F : gw_F X l cc nL ret own gTs rm D gCl (gTys cI cB cC cZ) 46 ad A) {j x : Int32} (hin : vp_in j 16) (hd : decode cc pc = .ok (.iastore, 1)) (kk : gw_V X (gw_P D gCl 46 ad (cE ad cI cB cC)) A nL rv (gw_u S 13 j.toNatClampNeg x) (pc + 1) lv rest ans) : gw_V X (gw_P D gCl 46 ad (cE ad cI cB cC)) A nL rv S pc lv (.int x :: .int j :: .ref (ad 13) :: rest) ans := gw_iast F 13 0 (by decide) cE_PYs rfl hin cE_PYs hd kk
theorem cn_PYs (F : gw_F X l cc nL ret own gTs rm D gCl (gTys cI cB cC cZ) 46 ad A) (hd : decode cc pc = .ok (.arraylength, 1)) (kk : gw_V X (gw_P D gCl 46 ad (cE ad cI cB cC)) A nL rv S (pc + 1) lv (.int (16 : Int32) :: rest) ans) : gw_V X (gw_P D gCl 46 ad (cE ad cI cB cC)) A nL rv S pc lv (.ref (ad 13) :: rest) ans := gw_alen F 13 0 (by decide) cE_PYs rfl rfl hd kk
theorem cg_Channel_pile (F : gw_F X l cc nL ret own gTs rm D gCl (gTys cI cB cC cZ) 46 ad A) {j : Nat} (h : j < 16) {index : Nat} (hl : Cond.fieldLink own index "StageMachine$Channel" "pile" "[I" ∈ gTs) (hd : decode cc pc = .ok (.getfield index, 3)) (kk : gw_V X (gw_P D gCl 46 ad (cE ad cI cB cC)) A nL rv S (pc + 3) lv (.ref (ad (j + 30)) :: rest) ans) : gw_V X (gw_P D gCl 46 ad (cE ad cI cB cC)) A nL rv S pc lv (.ref (ad (j + 14)) :: rest) ans := gw_get F cin_Channel (j + 14) (chi_Channel h) (cE_Channel h) rfl 0 (by decide) hl rfl rfl hd kk
theorem cgN_Channel_pile (F : gw_F X l cc nL ret own gTs rm D gCl (gTys cI cB cC cZ) 46 ad A) {j : Nat} (h : j < 16) {index : Nat} {host : String} (hl : Cond.fieldLinkNest own index "StageMachine$Channel" "pile" "[I" host ∈ gTs) (hd : decode cc pc = .ok (.getfield index, 3)) (kk : gw_V X (gw_P D gCl 46 ad (cE ad cI cB cC)) A nL rv S (pc + 3) lv (.ref (ad (j + 30)) :: rest) ans) : gw_V X (gw_P D gCl 46 ad (cE ad cI cB cC)) A nL rv S pc lv (.ref (ad (j + 14)) :: rest) ans := gw_getN F cin_Channel (j + 14) (chi_Channel h) (cE_Channel h) rfl 0 (by decide) hl rfl rfl hd kk
theorem cg_Channel_returns (F : gw_F X l cc nL ret own gTs rm D gCl (gTys cI cB cC cZ) 46 ad A) {j : Nat} (h : j < 16) {index : Nat} (hl : Cond.fieldLink own index "StageMachine$Channel" "returns" "I" ∈ gTs) (hd : decode cc pc = .ok (.getfield index, 3)) (kk : gw_V X (gw_P D gCl 46 ad (cE ad cI cB cC)) A nL rv S (pc + 3) lv (.int (S (j + 14) 1) :: rest) ans) : gw_V X (gw_P D gCl 46 ad (cE ad cI cB cC)) A nL rv S pc lv (.ref (ad (j + 14)) :: rest) ans := gw_get F cin_Channel (j + 14) (chi_Channel h) (cE_Channel h) rfl 1 (by decide) hl rfl rfl hd kk
theorem cp_Channel_returns (F : gw_F X l cc nL ret own gTs rm D gCl (gTys cI cB cC cZ) 46 ad A) {j : Nat} (h : j < 16) {index : Nat} {x : Int32} (hl : Cond.fieldLink own index "StageMachine$Channel" "returns" "I" ∈ gTs) (hd : decode cc pc = .ok (.putfield index, 3)) (kk : gw_V X (gw_P D gCl 46 ad (cE ad cI cB cC)) A nL rv (gw_u S (j + 14) 1 x) (pc + 3) lv rest ans) : gw_V X (gw_P D gCl 46 ad (cE ad cI cB cC)) A nL rv S pc lv (.int x :: .ref (ad (j + 14)) :: rest) ans := gw_put F cin_Channel cty_Channel ctk_Channel cnm_Channel (j + 14) (chi_Channel h) (cE_Channel h) rfl 1 (by decide) hl rfl rfl (ctk_Channel 1 (by decide)) rfl rfl (Nat.le_of_ble_eq_true rfl) (((cE_Channel h)).trans rfl) hd kk
theorem cgN_Channel_returns (F : gw_F X l cc nL ret own gTs rm D gCl (gTys cI cB cC cZ) 46 ad A) {j : Nat} (h : j < 16) {index : Nat} {host : String} (hl : Cond.fieldLinkNest own index "StageMachine$Channel" "returns" "I" host ∈ gTs) (hd : decode cc pc = .ok (.getfield index, 3)) (kk : gw_V X (gw_P D gCl 46 ad (cE ad cI cB cC)) A nL rv S (pc + 3) lv (.int (S (j + 14) 1) :: rest) ans) : gw_V X (gw_P D gCl 46 ad (cE ad cI cB cC)) A nL rv S pc lv (.ref (ad (j + 14)) :: rest) ans := gw_getN F cin_Channel (j + 14) (chi_Channel h) (cE_Channel h) rfl 1 (by decide) hl rfl rfl hd kk
theorem cpN_Channel_returns (F : gw_F X l cc nL ret own gTs rm D gCl (gTys cI cB cC cZ) 46 ad A) {j : Nat} (h : j < 16) {index : Nat} {host : String} {x : Int32} (hl : Cond.fieldLinkNest own index "StageMachine$Channel" "returns" "I" host ∈ gTs) (hd : decode cc pc = .ok (.putfield index, 3)) (kk : gw_V X (gw_P D gCl 46 ad (cE ad cI cB cC)) A nL rv (gw_u S (j + 14) 1 x) (pc + 3) lv rest ans) : gw_V X (gw_P D gCl 46 ad (cE ad cI cB cC)) A nL rv S pc lv (.int x :: .ref (ad (j + 14)) :: rest) ans := gw_putN F cin_Channel cty_Channel ctk_Channel cnm_Channel (j + 14) (chi_Channel h) (cE_Channel h) rfl 1 (by decide) hl rfl rfl (ctk_Channel 1 (by decide)) rfl rfl (Nat.le_of_ble_eq_true rfl) (((cE_Channel h)).trans rfl) hd kk
theorem cg_Channel_address (F : gw_F X l cc nL ret own gTs rm D gCl (gTys cI cB cC cZ) 46 ad A) {j : Nat} (h : j < 16) {index : Nat} (hl : Cond.fieldLink own index "StageMachine$Channel" "address" "I" ∈ gTs) (hd : decode cc pc = .ok (.getfield index, 3)) (kk : gw_V X (gw_P D gCl 46 ad (cE ad cI cB cC)) A nL rv S (pc + 3) lv (.int (S (j + 14) 2) :: rest) ans) : gw_V X (gw_P D gCl 46 ad (cE ad cI cB cC)) A nL rv S pc lv (.ref (ad (j + 14)) :: rest) ans := gw_get F cin_Channel (j + 14) (chi_Channel h) (cE_Channel h) rfl 2 (by decide) hl rfl rfl hd kk
theorem cp_Channel_address (F : gw_F X l cc nL ret own gTs rm D gCl (gTys cI cB cC cZ) 46 ad A) {j : Nat} (h : j < 16) {index : Nat} {x : Int32} (hl : Cond.fieldLink own index "StageMachine$Channel" "address" "I" ∈ gTs) (hd : decode cc pc = .ok (.putfield index, 3)) (kk : gw_V X (gw_P D gCl 46 ad (cE ad cI cB cC)) A nL rv (gw_u S (j + 14) 2 x) (pc + 3) lv rest ans) : gw_V X (gw_P D gCl 46 ad (cE ad cI cB cC)) A nL rv S pc lv (.int x :: .ref (ad (j + 14)) :: rest) ans := gw_put F cin_Channel cty_Channel ctk_Channel cnm_Channel (j + 14) (chi_Channel h) (cE_Channel h) rfl 2 (by decide) hl rfl rfl (ctk_Channel 2 (by decide)) rfl rfl (Nat.le_of_ble_eq_true rfl) (((cE_Channel h)).trans rfl) hd kk
theorem cgN_Channel_address (F : gw_F X l cc nL ret own gTs rm D gCl (gTys cI cB cC cZ) 46 ad A) {j : Nat} (h : j < 16) {index : Nat} {host : String} (hl : Cond.fieldLinkNest own index "StageMachine$Channel" "address" "I" host ∈ gTs) (hd : decode cc pc = .ok (.getfield index, 3)) (kk : gw_V X (gw_P D gCl 46 ad (cE ad cI cB cC)) A nL rv S (pc + 3) lv (.int (S (j + 14) 2) :: rest) ans) : gw_V X (gw_P D gCl 46 ad (cE ad cI cB cC)) A nL rv S pc lv (.ref (ad (j + 14)) :: rest) ans := gw_getN F cin_Channel (j + 14) (chi_Channel h) (cE_Channel h) rfl 2 (by decide) hl rfl rfl hd kk
theorem cpN_Channel_address (F : gw_F X l cc nL ret own gTs rm D gCl (gTys cI cB cC cZ) 46 ad A) {j : Nat} (h : j < 16) {index : Nat} {host : String} {x : Int32} (hl : Cond.fieldLinkNest own index "StageMachine$Channel" "address" "I" host ∈ gTs) (hd : decode cc pc = .ok (.putfield index, 3)) (kk : gw_V X (gw_P D gCl 46 ad (cE ad cI cB cC)) A nL rv (gw_u S (j + 14) 2 x) (pc + 3) lv rest ans) : gw_V X (gw_P D gCl 46 ad (cE ad cI cB cC)) A nL rv S pc lv (.int x :: .ref (ad (j + 14)) :: rest) ans := gw_putN F cin_Channel cty_Channel ctk_Channel cnm_Channel (j + 14) (chi_Channel h) (cE_Channel h) rfl 2 (by decide) hl rfl rfl (ctk_Channel 2 (by decide)) rfl rfl (Nat.le_of_ble_eq_true rfl) (((cE_Channel h)).trans rfl) hd kk
theorem cg_Channel_paused (F : gw_F X l cc nL ret own gTs rm D gCl (gTys cI cB cC cZ) 46 ad A) {j : Nat} (h : j < 16) {index : Nat} (hl : Cond.fieldLink own index "StageMachine$Channel" "paused" "Z" ∈ gTs) (hd : decode cc pc = .ok (.getfield index, 3)) (kk : gw_V X (gw_P D gCl 46 ad (cE ad cI cB cC)) A nL rv S (pc + 3) lv (.int (S (j + 14) 3) :: rest) ans) : gw_V X (gw_P D gCl 46 ad (cE ad cI cB cC)) A nL rv S pc lv (.ref (ad (j + 14)) :: rest) ans := gw_get F cin_Channel (j + 14) (chi_Channel h) (cE_Channel h) rfl 3 (by decide) hl rfl rfl hd kk
theorem cp_Channel_paused (F : gw_F X l cc nL ret own gTs rm D gCl (gTys cI cB cC cZ) 46 ad A) {j : Nat} (h : j < 16) {index : Nat} {x : Int32} (hl : Cond.fieldLink own index "StageMachine$Channel" "paused" "Z" ∈ gTs) (hd : decode cc pc = .ok (.putfield index, 3)) (hn : narrow .boolean (.int x) = .int x) (hf : fits .boolean (.int x) = true) (kk : gw_V X (gw_P D gCl 46 ad (cE ad cI cB cC)) A nL rv (gw_u S (j + 14) 3 x) (pc + 3) lv rest ans) : gw_V X (gw_P D gCl 46 ad (cE ad cI cB cC)) A nL rv S pc lv (.int x :: .ref (ad (j + 14)) :: rest) ans := gw_put F cin_Channel cty_Channel ctk_Channel cnm_Channel (j + 14) (chi_Channel h) (cE_Channel h) rfl 3 (by decide) hl rfl rfl (ctk_Channel 3 (by decide)) hn hf (Nat.le_of_ble_eq_true rfl) (((cE_Channel h)).trans rfl) hd kk
theorem cgN_Channel_paused (F : gw_F X l cc nL ret own gTs rm D gCl (gTys cI cB cC cZ) 46 ad A) {j : Nat} (h : j < 16) {index : Nat} {host : String} (hl : Cond.fieldLinkNest own index "StageMachine$Channel" "paused" "Z" host ∈ gTs) (hd : decode cc pc = .ok (.getfield index, 3)) (kk : gw_V X (gw_P D gCl 46 ad (cE ad cI cB cC)) A nL rv S (pc + 3) lv (.int (S (j + 14) 3) :: rest) ans) : gw_V X (gw_P D gCl 46 ad (cE ad cI cB cC)) A nL rv S pc lv (.ref (ad (j + 14)) :: rest) ans := gw_getN F cin_Channel (j + 14) (chi_Channel h) (cE_Channel h) rfl 3 (by decide) hl rfl rfl hd kk
theorem cpN_Channel_paused (F : gw_F X l cc nL ret own gTs rm D gCl (gTys cI cB cC cZ) 46 ad A) {j : Nat} (h : j < 16) {index : Nat} {host : String} {x : Int32} (hl : Cond.fieldLinkNest own index "StageMachine$Channel" "paused" "Z" host ∈ gTs) (hd : decode cc pc = .ok (.putfield index, 3)) (hn : narrow .boolean (.int x) = .int x) (hf : fits .boolean (.int x) = true) (kk : gw_V X (gw_P D gCl 46 ad (cE ad cI cB cC)) A nL rv (gw_u S (j + 14) 3 x) (pc + 3) lv rest ans) : gw_V X (gw_P D gCl 46 ad (cE ad cI cB cC)) A nL rv S pc lv (.int x :: .ref (ad (j + 14)) :: rest) ans := gw_putN F cin_Channel cty_Channel ctk_Channel cnm_Channel (j + 14) (chi_Channel h) (cE_Channel h) rfl 3 (by decide) hl rfl rfl (ctk_Channel 3 (by decide)) hn hf (Nat.le_of_ble_eq_true rfl) (((cE_Channel h)).trans rfl) hd kk
theorem cg_Channel_latestFault (F : gw_F X l cc nL ret own gTs rm D gCl (gTys cI cB cC cZ) 46 ad A) {j : Nat} (h : j < 16) {index : Nat} (hl : Cond.fieldLink own index "StageMachine$Channel" "latestFault" "I" ∈ gTs) (hd : decode cc pc = .ok (.getfield index, 3)) (kk : gw_V X (gw_P D gCl 46 ad (cE ad cI cB cC)) A nL rv S (pc + 3) lv (.int (S (j + 14) 4) :: rest) ans) : gw_V X (gw_P D gCl 46 ad (cE ad cI cB cC)) A nL rv S pc lv (.ref (ad (j + 14)) :: rest) ans := gw_get F cin_Channel (j + 14) (chi_Channel h) (cE_Channel h) rfl 4 (by decide) hl rfl rfl hd kk
theorem cp_Channel_latestFault (F : gw_F X l cc nL ret own gTs rm D gCl (gTys cI cB cC cZ) 46 ad A) {j : Nat} (h : j < 16) {index : Nat} {x : Int32} (hl : Cond.fieldLink own index "StageMachine$Channel" "latestFault" "I" ∈ gTs) (hd : decode cc pc = .ok (.putfield index, 3)) (kk : gw_V X (gw_P D gCl 46 ad (cE ad cI cB cC)) A nL rv (gw_u S (j + 14) 4 x) (pc + 3) lv rest ans) : gw_V X (gw_P D gCl 46 ad (cE ad cI cB cC)) A nL rv S pc lv (.int x :: .ref (ad (j + 14)) :: rest) ans := gw_put F cin_Channel cty_Channel ctk_Channel cnm_Channel (j + 14) (chi_Channel h) (cE_Channel h) rfl 4 (by decide) hl rfl rfl (ctk_Channel 4 (by decide)) rfl rfl (Nat.le_of_ble_eq_true rfl) (((cE_Channel h)).trans rfl) hd kk
theorem cgN_Channel_latestFault (F : gw_F X l cc nL ret own gTs rm D gCl (gTys cI cB cC cZ) 46 ad A) {j : Nat} (h : j < 16) {index : Nat} {host : String} (hl : Cond.fieldLinkNest own index "StageMachine$Channel" "latestFault" "I" host ∈ gTs) (hd : decode cc pc = .ok (.getfield index, 3)) (kk : gw_V X (gw_P D gCl 46 ad (cE ad cI cB cC)) A nL rv S (pc + 3) lv (.int (S (j + 14) 4) :: rest) ans) : gw_V X (gw_P D gCl 46 ad (cE ad cI cB cC)) A nL rv S pc lv (.ref (ad (j + 14)) :: rest) ans := gw_getN F cin_Channel (j + 14) (chi_Channel h) (cE_Channel h) rfl 4 (by decide) hl rfl rfl hd kk
theorem cpN_Channel_latestFault (F : gw_F X l cc nL ret own gTs rm D gCl (gTys cI cB cC cZ) 46 ad A) {j : Nat} (h : j < 16) {index : Nat} {host : String} {x : Int32} (hl : Cond.fieldLinkNest own index "StageMachine$Channel" "latestFault" "I" host ∈ gTs) (hd : decode cc pc = .ok (.putfield index, 3)) (kk : gw_V X (gw_P D gCl 46 ad (cE ad cI cB cC)) A nL rv (gw_u S (j + 14) 4 x) (pc + 3) lv rest ans) : gw_V X (gw_P D gCl 46 ad (cE ad cI cB cC)) A nL rv S pc lv (.int x :: .ref (ad (j + 14)) :: rest) ans := gw_putN F cin_Channel cty_Channel ctk_Channel cnm_Channel (j + 14) (chi_Channel h) (cE_Channel h) rfl 4 (by decide) hl rfl rfl (ctk_Channel 4 (by decide)) rfl rfl (Nat.le_of_ble_eq_true rfl) (((cE_Channel h)).trans rfl) hd kk
theorem cg_Channel_askedAddress (F : gw_F X l cc nL ret own gTs rm D gCl (gTys cI cB cC cZ) 46 ad A) {j : Nat} (h : j < 16) {index : Nat} (hl : Cond.fieldLink own index "StageMachine$Channel" "askedAddress" "I" ∈ gTs) (hd : decode cc pc = .ok (.getfield index, 3)) (kk : gw_V X (gw_P D gCl 46 ad (cE ad cI cB cC)) A nL rv S (pc + 3) lv (.int (S (j + 14) 5) :: rest) ans) : gw_V X (gw_P D gCl 46 ad (cE ad cI cB cC)) A nL rv S pc lv (.ref (ad (j + 14)) :: rest) ans := gw_get F cin_Channel (j + 14) (chi_Channel h) (cE_Channel h) rfl 5 (by decide) hl rfl rfl hd kk
theorem cp_Channel_askedAddress (F : gw_F X l cc nL ret own gTs rm D gCl (gTys cI cB cC cZ) 46 ad A) {j : Nat} (h : j < 16) {index : Nat} {x : Int32} (hl : Cond.fieldLink own index "StageMachine$Channel" "askedAddress" "I" ∈ gTs) (hd : decode cc pc = .ok (.putfield index, 3)) (kk : gw_V X (gw_P D gCl 46 ad (cE ad cI cB cC)) A nL rv (gw_u S (j + 14) 5 x) (pc + 3) lv rest ans) : gw_V X (gw_P D gCl 46 ad (cE ad cI cB cC)) A nL rv S pc lv (.int x :: .ref (ad (j + 14)) :: rest) ans := gw_put F cin_Channel cty_Channel ctk_Channel cnm_Channel (j + 14) (chi_Channel h) (cE_Channel h) rfl 5 (by decide) hl rfl rfl (ctk_Channel 5 (by decide)) rfl rfl (Nat.le_of_ble_eq_true rfl) (((cE_Channel h)).trans rfl) hd kk
theorem cgN_Channel_askedAddress (F : gw_F X l cc nL ret own gTs rm D gCl (gTys cI cB cC cZ) 46 ad A) {j : Nat} (h : j < 16) {index : Nat} {host : String} (hl : Cond.fieldLinkNest own index "StageMachine$Channel" "askedAddress" "I" host ∈ gTs) (hd : decode cc pc = .ok (.getfield index, 3)) (kk : gw_V X (gw_P D gCl 46 ad (cE ad cI cB cC)) A nL rv S (pc + 3) lv (.int (S (j + 14) 5) :: rest) ans) : gw_V X (gw_P D gCl 46 ad (cE ad cI cB cC)) A nL rv S pc lv (.ref (ad (j + 14)) :: rest) ans := gw_getN F cin_Channel (j + 14) (chi_Channel h) (cE_Channel h) rfl 5 (by decide) hl rfl rfl hd kk
theorem cpN_Channel_askedAddress (F : gw_F X l cc nL ret own gTs rm D gCl (gTys cI cB cC cZ) 46 ad A) {j : Nat} (h : j < 16) {index : Nat} {host : String} {x : Int32} (hl : Cond.fieldLinkNest own index "StageMachine$Channel" "askedAddress" "I" host ∈ gTs) (hd : decode cc pc = .ok (.putfield index, 3)) (kk : gw_V X (gw_P D gCl 46 ad (cE ad cI cB cC)) A nL rv (gw_u S (j + 14) 5 x) (pc + 3) lv rest ans) : gw_V X (gw_P D gCl 46 ad (cE ad cI cB cC)) A nL rv S pc lv (.int x :: .ref (ad (j + 14)) :: rest) ans := gw_putN F cin_Channel cty_Channel ctk_Channel cnm_Channel (j + 14) (chi_Channel h) (cE_Channel h) rfl 5 (by decide) hl rfl rfl (ctk_Channel 5 (by decide)) rfl rfl (Nat.le_of_ble_eq_true rfl) (((cE_Channel h)).trans rfl) hd kk
theorem cg_Channel_askedPause (F : gw_F X l cc nL ret own gTs rm D gCl (gTys cI cB cC cZ) 46 ad A) {j : Nat} (h : j < 16) {index : Nat} (hl : Cond.fieldLink own index "StageMachine$Channel" "askedPause" "I" ∈ gTs) (hd : decode cc pc = .ok (.getfield index, 3)) (kk : gw_V X (gw_P D gCl 46 ad (cE ad cI cB cC)) A nL rv S (pc + 3) lv (.int (S (j + 14) 6) :: rest) ans) : gw_V X (gw_P D gCl 46 ad (cE ad cI cB cC)) A nL rv S pc lv (.ref (ad (j + 14)) :: rest) ans := gw_get F cin_Channel (j + 14) (chi_Channel h) (cE_Channel h) rfl 6 (by decide) hl rfl rfl hd kk
theorem cp_Channel_askedPause (F : gw_F X l cc nL ret own gTs rm D gCl (gTys cI cB cC cZ) 46 ad A) {j : Nat} (h : j < 16) {index : Nat} {x : Int32} (hl : Cond.fieldLink own index "StageMachine$Channel" "askedPause" "I" ∈ gTs) (hd : decode cc pc = .ok (.putfield index, 3)) (kk : gw_V X (gw_P D gCl 46 ad (cE ad cI cB cC)) A nL rv (gw_u S (j + 14) 6 x) (pc + 3) lv rest ans) : gw_V X (gw_P D gCl 46 ad (cE ad cI cB cC)) A nL rv S pc lv (.int x :: .ref (ad (j + 14)) :: rest) ans := gw_put F cin_Channel cty_Channel ctk_Channel cnm_Channel (j + 14) (chi_Channel h) (cE_Channel h) rfl 6 (by decide) hl rfl rfl (ctk_Channel 6 (by decide)) rfl rfl (Nat.le_of_ble_eq_true rfl) (((cE_Channel h)).trans rfl) hd kk
theorem cgN_Channel_askedPause (F : gw_F X l cc nL ret own gTs rm D gCl (gTys cI cB cC cZ) 46 ad A) {j : Nat} (h : j < 16) {index : Nat} {host : String} (hl : Cond.fieldLinkNest own index "StageMachine$Channel" "askedPause" "I" host ∈ gTs) (hd : decode cc pc = .ok (.getfield index, 3)) (kk : gw_V X (gw_P D gCl 46 ad (cE ad cI cB cC)) A nL rv S (pc + 3) lv (.int (S (j + 14) 6) :: rest) ans) : gw_V X (gw_P D gCl 46 ad (cE ad cI cB cC)) A nL rv S pc lv (.ref (ad (j + 14)) :: rest) ans := gw_getN F cin_Channel (j + 14) (chi_Channel h) (cE_Channel h) rfl 6 (by decide) hl rfl rfl hd kk
theorem cpN_Channel_askedPause (F : gw_F X l cc nL ret own gTs rm D gCl (gTys cI cB cC cZ) 46 ad A) {j : Nat} (h : j < 16) {index : Nat} {host : String} {x : Int32} (hl : Cond.fieldLinkNest own index "StageMachine$Channel" "askedPause" "I" host ∈ gTs) (hd : decode cc pc = .ok (.putfield index, 3)) (kk : gw_V X (gw_P D gCl 46 ad (cE ad cI cB cC)) A nL rv (gw_u S (j + 14) 6 x) (pc + 3) lv rest ans) : gw_V X (gw_P D gCl 46 ad (cE ad cI cB cC)) A nL rv S pc lv (.int x :: .ref (ad (j + 14)) :: rest) ans := gw_putN F cin_Channel cty_Channel ctk_Channel cnm_Channel (j + 14) (chi_Channel h) (cE_Channel h) rfl 6 (by decide) hl rfl rfl (ctk_Channel 6 (by decide)) rfl rfl (Nat.le_of_ble_eq_true rfl) (((cE_Channel h)).trans rfl) hd kk
theorem cl_Pile (F : gw_F X l cc nL ret own gTs rm D gCl (gTys cI cB cC cZ) 46 ad A) {j : Nat} (h : j < 16) {j' : Int32} (hin : vp_in j' 8) (hd : decode cc pc = .ok (.iaload, 1)) (kk : gw_V X (gw_P D gCl 46 ad (cE ad cI cB cC)) A nL rv S (pc + 1) lv (.int (S (j + 30) j'.toNatClampNeg) :: rest) ans) : gw_V X (gw_P D gCl 46 ad (cE ad cI cB cC)) A nL rv S pc lv (.int j' :: .ref (ad (j + 30)) :: rest) ans := gw_iald F (j + 30) 0 (chi_Pile h) (cE_Pile h) rfl hin hd kk
theorem cs_Pile (F : gw_F X l cc nL ret own gTs rm D gCl (gTys cI cB cC cZ) 46 ad A) {j : Nat} (h : j < 16) {j' x : Int32} (hin : vp_in j' 8) (hd : decode cc pc = .ok (.iastore, 1)) (kk : gw_V X (gw_P D gCl 46 ad (cE ad cI cB cC)) A nL rv (gw_u S (j + 30) j'.toNatClampNeg x) (pc + 1) lv rest ans) : gw_V X (gw_P D gCl 46 ad (cE ad cI cB cC)) A nL rv S pc lv (.int x :: .int j' :: .ref (ad (j + 30)) :: rest) ans := gw_iast F (j + 30) 0 (chi_Pile h) (cE_Pile h) rfl hin (cE_Pile h) hd kk
theorem cn_Pile (F : gw_F X l cc nL ret own gTs rm D gCl (gTys cI cB cC cZ) 46 ad A) {j : Nat} (h : j < 16) (hd : decode cc pc = .ok (.arraylength, 1)) (kk : gw_V X (gw_P D gCl 46 ad (cE ad cI cB cC)) A nL rv S (pc + 1) lv (.int (8 : Int32) :: rest) ans) : gw_V X (gw_P D gCl 46 ad (cE ad cI cB cC)) A nL rv S pc lv (.ref (ad (j + 30)) :: rest) ans := gw_alen F (j + 30) 0 (chi_Pile h) (cE_Pile h) rfl rfl hd kk
end
end
section
abbrev y_SM_put : MethodName := ⟨"StageMachine", "put", "(III)Z"⟩
theorem cw_SM_put : gw_cw gTs y_SM_put prog_1_method_2_code 6 (some .boolean) 3 := ⟨tw_171, tw_1, by decide, by decide, by decide +kernel⟩
theorem cv_SM_put : gw_cv gTs y_SM_put := ⟨tw_169, tw_170⟩
abbrev y_SM_byteAt : MethodName := ⟨"StageMachine", "byteAt", "(II)I"⟩
theorem cw_SM_byteAt : gw_cw gTs y_SM_byteAt prog_1_method_3_code 4 (some .int) 2 := ⟨tw_183, tw_1, by decide, by decide, by decide +kernel⟩
theorem cv_SM_byteAt : gw_cv gTs y_SM_byteAt := ⟨tw_181, tw_182⟩
abbrev y_SM_set : MethodName := ⟨"StageMachine", "set", "(II)Z"⟩
theorem cw_SM_set : gw_cw gTs y_SM_set prog_1_method_4_code 3 (some .boolean) 2 := ⟨tw_191, tw_1, by decide, by decide, by decide +kernel⟩
theorem cv_SM_set : gw_cv gTs y_SM_set := ⟨tw_189, tw_190⟩
abbrev y_SM_get : MethodName := ⟨"StageMachine", "get", "(I)I"⟩
theorem cw_SM_get : gw_cw gTs y_SM_get prog_1_method_5_code 2 (some .int) 1 := ⟨tw_198, tw_1, by decide, by decide, by decide +kernel⟩
theorem cv_SM_get : gw_cv gTs y_SM_get := ⟨tw_196, tw_197⟩
abbrev y_SM_ask : MethodName := ⟨"StageMachine", "ask", "(II)Z"⟩
theorem cw_SM_ask : gw_cw gTs y_SM_ask prog_1_method_6_code 3 (some .boolean) 2 := ⟨tw_202, tw_1, by decide, by decide, by decide +kernel⟩
theorem cv_SM_ask : gw_cv gTs y_SM_ask := ⟨tw_200, tw_201⟩
abbrev y_SM_frame : MethodName := ⟨"StageMachine", "frame", "(I)I"⟩
theorem cw_SM_frame : gw_cw gTs y_SM_frame prog_1_method_7_code 4 (some .int) 1 := ⟨tw_206, tw_1, by decide, by decide, by decide +kernel⟩
theorem cv_SM_frame : gw_cv gTs y_SM_frame := ⟨tw_204, tw_205⟩
abbrev y_SM_channel : MethodName := ⟨"StageMachine", "channel", "(II)I"⟩
theorem cw_SM_channel : gw_cw gTs y_SM_channel prog_1_method_8_code 4 (some .int) 2 := ⟨tw_388, tw_1, by decide, by decide, by decide +kernel⟩
theorem cv_SM_channel : gw_cv gTs y_SM_channel := ⟨tw_386, tw_387⟩
abbrev y_SM_pixel : MethodName := ⟨"StageMachine", "pixel", "(III)I"⟩
theorem cw_SM_pixel : gw_cw gTs y_SM_pixel prog_1_method_9_code 4 (some .int) 3 := ⟨tw_392, tw_1, by decide, by decide, by decide +kernel⟩
theorem cv_SM_pixel : gw_cv gTs y_SM_pixel := ⟨tw_390, tw_391⟩
abbrev y_SM_about : MethodName := ⟨"StageMachine", "about", "(I)I"⟩
theorem cw_SM_about : gw_cw gTs y_SM_about prog_1_method_10_code 2 (some .int) 1 := ⟨tw_400, tw_1, by decide, by decide, by decide +kernel⟩
theorem cv_SM_about : gw_cv gTs y_SM_about := ⟨tw_398, tw_399⟩
abbrev y_SM_bytesOf : MethodName := ⟨"StageMachine", "bytesOf", "(I)LStageMachine$Bytes;"⟩
theorem cw_SM_bytesOf : gw_cw gTs y_SM_bytesOf prog_1_method_11_code 2 (some (.object "StageMachine$Bytes")) 1 := ⟨tw_175, tw_1, by decide, by decide, by decide +kernel⟩
theorem cv_SM_bytesOf : gw_cv gTs y_SM_bytesOf := ⟨tw_174, tw_675⟩
abbrev y_SM_isBelow : MethodName := ⟨"StageMachine", "isBelow", "(II)Z"⟩
theorem cw_SM_isBelow : gw_cw gTs y_SM_isBelow prog_1_method_12_code 2 (some .boolean) 2 := ⟨tw_194, tw_1, by decide, by decide, by decide +kernel⟩
theorem cv_SM_isBelow : Cond.static y_SM_isBelow ∈ gTs := tw_193
abbrev y_Bytes_read : MethodName := ⟨"StageMachine$Bytes", "read", "(I)I"⟩
theorem cw_Bytes_read : gw_cw gTs y_Bytes_read prog_2_method_2_code 2 (some .int) 1 := ⟨tw_187, tw_3, by decide, by decide, by decide +kernel⟩
theorem cv_Bytes_read : gw_cv gTs y_Bytes_read := ⟨tw_185, tw_186⟩
abbrev y_Bytes_readPair : MethodName := ⟨"StageMachine$Bytes", "readPair", "(I)I"⟩
theorem cw_Bytes_readPair : gw_cw gTs y_Bytes_readPair prog_2_method_3_code 3 (some .int) 1 := ⟨tw_251, tw_3, by decide, by decide, by decide +kernel⟩
theorem cv_Bytes_readPair : gw_cv gTs y_Bytes_readPair := ⟨tw_249, tw_250⟩
abbrev y_Bytes_write : MethodName := ⟨"StageMachine$Bytes", "write", "(II)V"⟩
theorem cw_Bytes_write : gw_cw gTs y_Bytes_write prog_2_method_4_code 3 none 2 := ⟨tw_179, tw_3, by decide, by decide, by decide +kernel⟩
theorem cv_Bytes_write : gw_cv gTs y_Bytes_write := ⟨tw_177, tw_178⟩
abbrev y_Channel_isRunning : MethodName := ⟨"StageMachine$Channel", "isRunning", "()Z"⟩
theorem cw_Channel_isRunning : gw_cw gTs y_Channel_isRunning prog_3_method_2_code 1 (some .boolean) 0 := ⟨tw_218, tw_6, by decide, by decide, by decide +kernel⟩
theorem cv_Channel_isRunning : gw_cv gTs y_Channel_isRunning := ⟨tw_216, tw_217⟩
abbrev y_Channel_settleAsked : MethodName := ⟨"StageMachine$Channel", "settleAsked", "()V"⟩
theorem cw_Channel_settleAsked : gw_cw gTs y_Channel_settleAsked prog_3_method_3_code 1 none 0 := ⟨tw_214, tw_6, by decide, by decide, by decide +kernel⟩
theorem cv_Channel_settleAsked : gw_cv gTs y_Channel_settleAsked := ⟨tw_212, tw_213⟩
abbrev y_Channel_pushReturn : MethodName := ⟨"StageMachine$Channel", "pushReturn", "(I)Z"⟩
theorem cw_Channel_pushReturn : gw_cw gTs y_Channel_pushReturn prog_3_method_4_code 2 (some .boolean) 1 := ⟨tw_267, tw_6, by decide, by decide, by decide +kernel⟩
theorem cv_Channel_pushReturn : gw_cv gTs y_Channel_pushReturn := ⟨tw_265, tw_266⟩
abbrev y_Channel_popReturn : MethodName := ⟨"StageMachine$Channel", "popReturn", "()I"⟩
theorem cw_Channel_popReturn : gw_cw gTs y_Channel_popReturn prog_3_method_5_code 1 (some .int) 0 := ⟨tw_283, tw_6, by decide, by decide, by decide +kernel⟩
theorem cv_Channel_popReturn : gw_cv gTs y_Channel_popReturn := ⟨tw_281, tw_282⟩
abbrev y_Pages_pageOf : MethodName := ⟨"StageMachine$Pages", "pageOf", "(I)I"⟩
theorem cw_Pages_pageOf : gw_cw gTs y_Pages_pageOf prog_4_method_2_code 2 (some .int) 1 := ⟨tw_314, tw_5, by decide, by decide, by decide +kernel⟩
theorem cv_Pages_pageOf : gw_cv gTs y_Pages_pageOf := ⟨tw_312, tw_313⟩
abbrev y_Pages_colourAt : MethodName := ⟨"StageMachine$Pages", "colourAt", "(III)I"⟩
theorem cw_Pages_colourAt : gw_cw gTs y_Pages_colourAt prog_4_method_3_code 4 (some .int) 3 := ⟨tw_396, tw_5, by decide, by decide, by decide +kernel⟩
theorem cv_Pages_colourAt : gw_cv gTs y_Pages_colourAt := ⟨tw_394, tw_395⟩
abbrev y_Pages_fill : MethodName := ⟨"StageMachine$Pages", "fill", "(II)V"⟩
theorem cw_Pages_fill : gw_cw gTs y_Pages_fill prog_4_method_4_code 4 none 2 := ⟨tw_318, tw_5, by decide, by decide, by decide +kernel⟩
theorem cv_Pages_fill : gw_cv gTs y_Pages_fill := ⟨tw_316, tw_317⟩
abbrev y_Pages_copy : MethodName := ⟨"StageMachine$Pages", "copy", "(II)V"⟩
theorem cw_Pages_copy : gw_cw gTs y_Pages_copy prog_4_method_5_code 3 none 2 := ⟨tw_328, tw_5, by decide, by decide, by decide +kernel⟩
theorem cv_Pages_copy : gw_cv gTs y_Pages_copy := ⟨tw_326, tw_327⟩
abbrev y_Pages_startOfRow : MethodName := ⟨"StageMachine$Pages", "startOfRow", "(I)I"⟩
theorem cw_Pages_startOfRow : gw_cw gTs y_Pages_startOfRow prog_4_method_6_code 2 (some .int) 1 := ⟨tw_376, tw_5, by decide, by decide, by decide +kernel⟩
theorem cv_Pages_startOfRow : gw_cv gTs y_Pages_startOfRow := ⟨tw_374, tw_375⟩
abbrev y_Painter_forgetCounts : MethodName := ⟨"StageMachine$Painter", "forgetCounts", "()V"⟩
theorem cw_Painter_forgetCounts : gw_cw gTs y_Painter_forgetCounts prog_5_method_2_code 1 none 0 := ⟨tw_210, tw_4, by decide, by decide, by decide +kernel⟩
theorem cv_Painter_forgetCounts : gw_cv gTs y_Painter_forgetCounts := ⟨tw_208, tw_209⟩
abbrev y_Painter_drawShape : MethodName := ⟨"StageMachine$Painter", "drawShape", "(IIIIII)V"⟩
theorem cw_Painter_drawShape : gw_cw gTs y_Painter_drawShape prog_5_method_3_code 8 none 6 := ⟨tw_339, tw_4, by decide, by decide, by decide +kernel⟩
theorem cv_Painter_drawShape : gw_cv gTs y_Painter_drawShape := ⟨tw_338, tw_695⟩
abbrev y_Painter_drawGroup : MethodName := ⟨"StageMachine$Painter", "drawGroup", "(IIIIII)V"⟩
theorem cw_Painter_drawGroup : gw_cw gTs y_Painter_drawGroup prog_5_method_4_code 17 none 6 := ⟨tw_381, tw_4, by decide, by decide, by decide +kernel⟩
theorem cv_Painter_drawGroup : gw_cv gTs y_Painter_drawGroup := ⟨tw_380, tw_699⟩
abbrev y_Painter_placePairs : MethodName := ⟨"StageMachine$Painter", "placePairs", "(IIII)V"⟩
theorem cw_Painter_placePairs : gw_cw gTs y_Painter_placePairs prog_5_method_5_code 10 none 4 := ⟨tw_344, tw_4, by decide, by decide, by decide +kernel⟩
theorem cv_Painter_placePairs : gw_cv gTs y_Painter_placePairs := ⟨tw_343, tw_696⟩
abbrev y_Painter_drawPolygon : MethodName := ⟨"StageMachine$Painter", "drawPolygon", "(II)V"⟩
theorem cw_Painter_drawPolygon : gw_cw gTs y_Painter_drawPolygon prog_5_method_6_code 5 none 2 := ⟨tw_354, tw_4, by decide, by decide, by decide +kernel⟩
theorem cv_Painter_drawPolygon : gw_cv gTs y_Painter_drawPolygon := ⟨tw_353, tw_697⟩
abbrev y_Painter_drawRows : MethodName := ⟨"StageMachine$Painter", "drawRows", "(III)V"⟩
theorem cw_Painter_drawRows : gw_cw gTs y_Painter_drawRows prog_5_method_7_code 15 none 3 := ⟨tw_358, tw_4, by decide, by decide, by decide +kernel⟩
theorem cv_Painter_drawRows : gw_cv gTs y_Painter_drawRows := ⟨tw_357, tw_698⟩
abbrev y_Painter_edgeAt : MethodName := ⟨"StageMachine$Painter", "edgeAt", "(IJI)I"⟩
theorem cw_Painter_edgeAt : gw_cw gTs y_Painter_edgeAt prog_5_method_8_code 4 (some .int) 3 := ⟨tw_371, tw_4, by decide, by decide, by decide +kernel⟩
theorem cv_Painter_edgeAt : Cond.static y_Painter_edgeAt ∈ gTs := tw_370
abbrev y_Painter_scaled : MethodName := ⟨"StageMachine$Painter", "scaled", "(II)I"⟩
theorem cw_Painter_scaled : gw_cw gTs y_Painter_scaled prog_5_method_9_code 2 (some .int) 2 := ⟨tw_347, tw_4, by decide, by decide, by decide +kernel⟩
theorem cv_Painter_scaled : Cond.static y_Painter_scaled ∈ gTs := tw_346
abbrev y_Player_takeTurn : MethodName := ⟨"StageMachine$Player", "takeTurn", "(LStageMachine$Channel;I)I"⟩
theorem cw_Player_takeTurn : gw_cw gTs y_Player_takeTurn prog_6_method_2_code 5 (some .int) 2 := ⟨tw_222, tw_2, by decide, by decide, by decide +kernel⟩
theorem cv_Player_takeTurn : gw_cv gTs y_Player_takeTurn := ⟨tw_220, tw_221⟩
abbrev y_Player_doInstruction : MethodName := ⟨"StageMachine$Player", "doInstruction", "(LStageMachine$Channel;)V"⟩
theorem cw_Player_doInstruction : gw_cw gTs y_Player_doInstruction prog_6_method_3_code 3 none 1 := ⟨tw_226, tw_2, by decide, by decide, by decide +kernel⟩
theorem cv_Player_doInstruction : gw_cv gTs y_Player_doInstruction := ⟨tw_225, tw_676⟩
abbrev y_Player_compute : MethodName := ⟨"StageMachine$Player", "compute", "(I)V"⟩
theorem cw_Player_compute : gw_cw gTs y_Player_compute prog_6_method_4_code 3 none 1 := ⟨tw_235, tw_2, by decide, by decide, by decide +kernel⟩
theorem cv_Player_compute : gw_cv gTs y_Player_compute := ⟨tw_234, tw_678⟩
abbrev y_Player_callAddress : MethodName := ⟨"StageMachine$Player", "callAddress", "(LStageMachine$Channel;)V"⟩
theorem cw_Player_callAddress : gw_cw gTs y_Player_callAddress prog_6_method_5_code 3 none 1 := ⟨tw_263, tw_2, by decide, by decide, by decide +kernel⟩
theorem cv_Player_callAddress : gw_cv gTs y_Player_callAddress := ⟨tw_262, tw_684⟩
abbrev y_Player_comeBack : MethodName := ⟨"StageMachine$Player", "comeBack", "(LStageMachine$Channel;)V"⟩
theorem cw_Player_comeBack : gw_cw gTs y_Player_comeBack prog_6_method_6_code 3 none 1 := ⟨tw_279, tw_2, by decide, by decide, by decide +kernel⟩
theorem cv_Player_comeBack : gw_cv gTs y_Player_comeBack := ⟨tw_278, tw_687⟩
abbrev y_Player_loop : MethodName := ⟨"StageMachine$Player", "loop", "()V"⟩
theorem cw_Player_loop : gw_cw gTs y_Player_loop prog_6_method_7_code 3 none 0 := ⟨tw_287, tw_2, by decide, by decide, by decide +kernel⟩
theorem cv_Player_loop : gw_cv gTs y_Player_loop := ⟨tw_286, tw_688⟩
abbrev y_Player_jumpIf : MethodName := ⟨"StageMachine$Player", "jumpIf", "(LStageMachine$Channel;)V"⟩
theorem cw_Player_jumpIf : gw_cw gTs y_Player_jumpIf prog_6_method_8_code 7 none 1 := ⟨tw_291, tw_2, by decide, by decide, by decide +kernel⟩
theorem cv_Player_jumpIf : gw_cv gTs y_Player_jumpIf := ⟨tw_290, tw_689⟩
abbrev y_Player_nextCompared : MethodName := ⟨"StageMachine$Player", "nextCompared", "(I)I"⟩
theorem cw_Player_nextCompared : gw_cw gTs y_Player_nextCompared prog_6_method_9_code 2 (some .int) 1 := ⟨tw_295, tw_2, by decide, by decide, by decide +kernel⟩
theorem cv_Player_nextCompared : gw_cv gTs y_Player_nextCompared := ⟨tw_294, tw_690⟩
abbrev y_Player_compares : MethodName := ⟨"StageMachine$Player", "compares", "(III)Z"⟩
theorem cw_Player_compares : gw_cw gTs y_Player_compares prog_6_method_10_code 3 (some .boolean) 3 := ⟨tw_298, tw_2, by decide, by decide, by decide +kernel⟩
theorem cv_Player_compares : Cond.static y_Player_compares ∈ gTs := tw_297
abbrev y_Player_startOther : MethodName := ⟨"StageMachine$Player", "startOther", "()V"⟩
theorem cw_Player_startOther : gw_cw gTs y_Player_startOther prog_6_method_11_code 2 none 0 := ⟨tw_302, tw_2, by decide, by decide, by decide +kernel⟩
theorem cv_Player_startOther : gw_cv gTs y_Player_startOther := ⟨tw_301, tw_691⟩
abbrev y_Player_askOfEach : MethodName := ⟨"StageMachine$Player", "askOfEach", "(LStageMachine$Channel;)V"⟩
theorem cw_Player_askOfEach : gw_cw gTs y_Player_askOfEach prog_6_method_12_code 6 none 1 := ⟨tw_306, tw_2, by decide, by decide, by decide +kernel⟩
theorem cv_Player_askOfEach : gw_cv gTs y_Player_askOfEach := ⟨tw_305, tw_692⟩
abbrev y_Player_handlePages : MethodName := ⟨"StageMachine$Player", "handlePages", "(I)V"⟩
theorem cw_Player_handlePages : gw_cw gTs y_Player_handlePages prog_6_method_13_code 4 none 1 := ⟨tw_310, tw_2, by decide, by decide, by decide +kernel⟩
theorem cv_Player_handlePages : gw_cv gTs y_Player_handlePages := ⟨tw_309, tw_693⟩
abbrev y_Player_draw : MethodName := ⟨"StageMachine$Player", "draw", "()V"⟩
theorem cw_Player_draw : gw_cw gTs y_Player_draw prog_6_method_14_code 6 none 0 := ⟨tw_335, tw_2, by decide, by decide, by decide +kernel⟩
theorem cv_Player_draw : gw_cv gTs y_Player_draw := ⟨tw_334, tw_694⟩
abbrev y_Player_fail : MethodName := ⟨"StageMachine$Player", "fail", "(LStageMachine$Channel;I)V"⟩
theorem cw_Player_fail : gw_cw gTs y_Player_fail prog_6_method_15_code 3 none 2 := ⟨tw_271, tw_2, by decide, by decide, by decide +kernel⟩
theorem cv_Player_fail : gw_cv gTs y_Player_fail := ⟨tw_270, tw_685⟩
abbrev y_Player_end : MethodName := ⟨"StageMachine$Player", "end", "()V"⟩
theorem cw_Player_end : gw_cw gTs y_Player_end prog_6_method_16_code 1 none 0 := ⟨tw_275, tw_2, by decide, by decide, by decide +kernel⟩
theorem cv_Player_end : gw_cv gTs y_Player_end := ⟨tw_274, tw_686⟩
abbrev y_Player_store : MethodName := ⟨"StageMachine$Player", "store", "(II)V"⟩
theorem cw_Player_store : gw_cw gTs y_Player_store prog_6_method_17_code 3 none 2 := ⟨tw_255, tw_2, by decide, by decide, by decide +kernel⟩
theorem cv_Player_store : gw_cv gTs y_Player_store := ⟨tw_254, tw_682⟩
abbrev y_Player_nextByte : MethodName := ⟨"StageMachine$Player", "nextByte", "()I"⟩
theorem cw_Player_nextByte : gw_cw gTs y_Player_nextByte prog_6_method_18_code 2 (some .int) 0 := ⟨tw_230, tw_2, by decide, by decide, by decide +kernel⟩
theorem cv_Player_nextByte : gw_cv gTs y_Player_nextByte := ⟨tw_229, tw_677⟩
abbrev y_Player_nextPair : MethodName := ⟨"StageMachine$Player", "nextPair", "()I"⟩
theorem cw_Player_nextPair : gw_cw gTs y_Player_nextPair prog_6_method_19_code 2 (some .int) 0 := ⟨tw_247, tw_2, by decide, by decide, by decide +kernel⟩
theorem cv_Player_nextPair : gw_cv gTs y_Player_nextPair := ⟨tw_246, tw_681⟩
abbrev y_Player_nextVariable : MethodName := ⟨"StageMachine$Player", "nextVariable", "()I"⟩
theorem cw_Player_nextVariable : gw_cw gTs y_Player_nextVariable prog_6_method_20_code 1 (some .int) 0 := ⟨tw_239, tw_2, by decide, by decide, by decide +kernel⟩
theorem cv_Player_nextVariable : gw_cv gTs y_Player_nextVariable := ⟨tw_238, tw_679⟩
abbrev y_Player_nextNumber : MethodName := ⟨"StageMachine$Player", "nextNumber", "()I"⟩
theorem cw_Player_nextNumber : gw_cw gTs y_Player_nextNumber prog_6_method_21_code 1 (some .int) 0 := ⟨tw_243, tw_2, by decide, by decide, by decide +kernel⟩
theorem cv_Player_nextNumber : gw_cv gTs y_Player_nextNumber := ⟨tw_242, tw_680⟩
abbrev y_Player_nextAddress : MethodName := ⟨"StageMachine$Player", "nextAddress", "()I"⟩
theorem cw_Player_nextAddress : gw_cw gTs y_Player_nextAddress prog_6_method_22_code 1 (some .int) 0 := ⟨tw_259, tw_2, by decide, by decide, by decide +kernel⟩
theorem cv_Player_nextAddress : gw_cv gTs y_Player_nextAddress := ⟨tw_258, tw_683⟩
abbrev y_Math_fdI : MethodName := ⟨"java/lang/Math", "floorDiv", "(II)I"⟩
theorem cw_Math_fdI : gw_cw gTs y_Math_fdI prog_9_method_47_code 3 (some .int) 2 := ⟨tw_350, tw_10, by decide, by decide, by decide +kernel⟩
theorem cv_Math_fdI : Cond.static y_Math_fdI ∈ gTs := tw_349
abbrev y_Math_fdJ : MethodName := ⟨"java/lang/Math", "floorDiv", "(JJ)J"⟩
theorem cw_Math_fdJ : gw_cw gTs y_Math_fdJ prog_9_method_49_code 6 (some .long) 2 := ⟨tw_362, tw_10, by decide, by decide, by decide +kernel⟩
theorem cv_Math_fdJ : Cond.static y_Math_fdJ ∈ gTs := tw_361
abbrev y_Math_max : MethodName := ⟨"java/lang/Math", "max", "(II)I"⟩
theorem cw_Math_max : gw_cw gTs y_Math_max prog_9_method_65_code 2 (some .int) 2 := ⟨tw_365, tw_10, by decide, by decide, by decide +kernel⟩
theorem cv_Math_max : Cond.static y_Math_max ∈ gTs := tw_364
abbrev y_Math_min : MethodName := ⟨"java/lang/Math", "min", "(II)I"⟩
theorem cw_Math_min : gw_cw gTs y_Math_min prog_9_method_69_code 2 (some .int) 2 := ⟨tw_368, tw_10, by decide, by decide, by decide +kernel⟩
theorem cv_Math_min : Cond.static y_Math_min ∈ gTs := tw_367
abbrev y_Arrays_fill : MethodName := ⟨"java/util/Arrays", "fill", "([BIIB)V"⟩
theorem cw_Arrays_fill : gw_cw gTs y_Arrays_fill prog_11_method_110_code 5 none 4 := ⟨tw_321, tw_8, by decide, by decide, by decide +kernel⟩
theorem cv_Arrays_fill : Cond.static y_Arrays_fill ∈ gTs := tw_320
abbrev y_Arrays_rangeCheck : MethodName := ⟨"java/util/Arrays", "rangeCheck", "(III)V"⟩
theorem cw_Arrays_rangeCheck : gw_cw gTs y_Arrays_rangeCheck prog_11_method_30_code 3 none 3 := ⟨tw_324, tw_8, by decide, by decide, by decide +kernel⟩
theorem cv_Arrays_rangeCheck : Cond.static y_Arrays_rangeCheck ∈ gTs := tw_323
end
section
theorem d_SM_put_0 : decode prog_1_method_2_code 0 = .ok (.aload_n 0, 1) := by decide +kernel
theorem d_SM_put_1 : decode prog_1_method_2_code 1 = .ok (.iload_n 1, 1) := by decide +kernel
theorem d_SM_put_2 : decode prog_1_method_2_code 2 = .ok (.invokevirtual 23, 3) := by decide +kernel
theorem d_SM_put_5 : decode prog_1_method_2_code 5 = .ok (.astore 4, 2) := by decide +kernel
theorem d_SM_put_7 : decode prog_1_method_2_code 7 = .ok (.aload 4, 2) := by decide +kernel
theorem d_SM_put_9 : decode prog_1_method_2_code 9 = .ok (.ifnull 14, 3) := by decide +kernel
theorem d_SM_put_12 : decode prog_1_method_2_code 12 = .ok (.iload_n 2, 1) := by decide +kernel
theorem d_SM_put_13 : decode prog_1_method_2_code 13 = .ok (.ifCond .lt 10, 3) := by decide +kernel
theorem d_SM_put_16 : decode prog_1_method_2_code 16 = .ok (.iload_n 2, 1) := by decide +kernel
theorem d_SM_put_17 : decode prog_1_method_2_code 17 = .ok (.sipush 1020, 3) := by decide +kernel
theorem d_SM_put_20 : decode prog_1_method_2_code 20 = .ok (.if_icmp .le 5, 3) := by decide +kernel
theorem d_SM_put_23 : decode prog_1_method_2_code 23 = .ok (.iconst 0, 1) := by decide +kernel
theorem d_SM_put_24 : decode prog_1_method_2_code 24 = .ok (.ireturn, 1) := by decide +kernel
theorem d_SM_put_25 : decode prog_1_method_2_code 25 = .ok (.iconst 0, 1) := by decide +kernel
theorem d_SM_put_26 : decode prog_1_method_2_code 26 = .ok (.istore 5, 2) := by decide +kernel
theorem d_SM_put_28 : decode prog_1_method_2_code 28 = .ok (.iload 5, 2) := by decide +kernel
theorem d_SM_put_30 : decode prog_1_method_2_code 30 = .ok (.iconst 4, 1) := by decide +kernel
theorem d_SM_put_31 : decode prog_1_method_2_code 31 = .ok (.if_icmp .ge 28, 3) := by decide +kernel
theorem d_SM_put_34 : decode prog_1_method_2_code 34 = .ok (.aload 4, 2) := by decide +kernel
theorem d_SM_put_36 : decode prog_1_method_2_code 36 = .ok (.iload_n 2, 1) := by decide +kernel
theorem d_SM_put_37 : decode prog_1_method_2_code 37 = .ok (.iload 5, 2) := by decide +kernel
theorem d_SM_put_39 : decode prog_1_method_2_code 39 = .ok (.iadd, 1) := by decide +kernel
theorem d_SM_put_40 : decode prog_1_method_2_code 40 = .ok (.iload_n 3, 1) := by decide +kernel
theorem d_SM_put_41 : decode prog_1_method_2_code 41 = .ok (.bipush 24, 2) := by decide +kernel
theorem d_SM_put_43 : decode prog_1_method_2_code 43 = .ok (.bipush 8, 2) := by decide +kernel
theorem d_SM_put_45 : decode prog_1_method_2_code 45 = .ok (.iload 5, 2) := by decide +kernel
theorem d_SM_put_47 : decode prog_1_method_2_code 47 = .ok (.imul, 1) := by decide +kernel
theorem d_SM_put_48 : decode prog_1_method_2_code 48 = .ok (.isub, 1) := by decide +kernel
theorem d_SM_put_49 : decode prog_1_method_2_code 49 = .ok (.ishr, 1) := by decide +kernel
theorem d_SM_put_50 : decode prog_1_method_2_code 50 = .ok (.invokevirtual 27, 3) := by decide +kernel
theorem d_SM_put_53 : decode prog_1_method_2_code 53 = .ok (.iinc 5 1, 3) := by decide +kernel
theorem d_SM_put_56 : decode prog_1_method_2_code 56 = .ok (.goto (-28), 3) := by decide +kernel
theorem d_SM_put_59 : decode prog_1_method_2_code 59 = .ok (.iconst 1, 1) := by decide +kernel
theorem d_SM_put_60 : decode prog_1_method_2_code 60 = .ok (.ireturn, 1) := by decide +kernel
theorem d_SM_byteAt_0 : decode prog_1_method_3_code 0 = .ok (.aload_n 0, 1) := by decide +kernel
theorem d_SM_byteAt_1 : decode prog_1_method_3_code 1 = .ok (.iload_n 1, 1) := by decide +kernel
theorem d_SM_byteAt_2 : decode prog_1_method_3_code 2 = .ok (.invokevirtual 23, 3) := by decide +kernel
theorem d_SM_byteAt_5 : decode prog_1_method_3_code 5 = .ok (.astore_n 3, 1) := by decide +kernel
theorem d_SM_byteAt_6 : decode prog_1_method_3_code 6 = .ok (.aload_n 3, 1) := by decide +kernel
theorem d_SM_byteAt_7 : decode prog_1_method_3_code 7 = .ok (.ifnull 14, 3) := by decide +kernel
theorem d_SM_byteAt_10 : decode prog_1_method_3_code 10 = .ok (.iload_n 2, 1) := by decide +kernel
theorem d_SM_byteAt_11 : decode prog_1_method_3_code 11 = .ok (.ifCond .lt 10, 3) := by decide +kernel
theorem d_SM_byteAt_14 : decode prog_1_method_3_code 14 = .ok (.iload_n 2, 1) := by decide +kernel
theorem d_SM_byteAt_15 : decode prog_1_method_3_code 15 = .ok (.sipush 1023, 3) := by decide +kernel
theorem d_SM_byteAt_18 : decode prog_1_method_3_code 18 = .ok (.if_icmp .le 5, 3) := by decide +kernel
theorem d_SM_byteAt_21 : decode prog_1_method_3_code 21 = .ok (.iconst (-1), 1) := by decide +kernel
theorem d_SM_byteAt_22 : decode prog_1_method_3_code 22 = .ok (.ireturn, 1) := by decide +kernel
theorem d_SM_byteAt_23 : decode prog_1_method_3_code 23 = .ok (.aload_n 3, 1) := by decide +kernel
theorem d_SM_byteAt_24 : decode prog_1_method_3_code 24 = .ok (.iload_n 2, 1) := by decide +kernel
theorem d_SM_byteAt_25 : decode prog_1_method_3_code 25 = .ok (.invokevirtual 33, 3) := by decide +kernel
theorem d_SM_byteAt_28 : decode prog_1_method_3_code 28 = .ok (.ireturn, 1) := by decide +kernel
theorem d_SM_set_0 : decode prog_1_method_4_code 0 = .ok (.iload_n 1, 1) := by decide +kernel
theorem d_SM_set_1 : decode prog_1_method_4_code 1 = .ok (.bipush 32, 2) := by decide +kernel
theorem d_SM_set_3 : decode prog_1_method_4_code 3 = .ok (.invokestatic 37, 3) := by decide +kernel
theorem d_SM_set_6 : decode prog_1_method_4_code 6 = .ok (.ifCond .ne 5, 3) := by decide +kernel
theorem d_SM_set_9 : decode prog_1_method_4_code 9 = .ok (.iconst 0, 1) := by decide +kernel
theorem d_SM_set_10 : decode prog_1_method_4_code 10 = .ok (.ireturn, 1) := by decide +kernel
theorem d_SM_set_11 : decode prog_1_method_4_code 11 = .ok (.aload_n 0, 1) := by decide +kernel
theorem d_SM_set_12 : decode prog_1_method_4_code 12 = .ok (.getfield 19, 3) := by decide +kernel
theorem d_SM_set_15 : decode prog_1_method_4_code 15 = .ok (.getfield 41, 3) := by decide +kernel
theorem d_SM_set_18 : decode prog_1_method_4_code 18 = .ok (.iload_n 1, 1) := by decide +kernel
theorem d_SM_set_19 : decode prog_1_method_4_code 19 = .ok (.iload_n 2, 1) := by decide +kernel
theorem d_SM_set_20 : decode prog_1_method_4_code 20 = .ok (.i2s, 1) := by decide +kernel
theorem d_SM_set_21 : decode prog_1_method_4_code 21 = .ok (.iastore, 1) := by decide +kernel
theorem d_SM_set_22 : decode prog_1_method_4_code 22 = .ok (.iconst 1, 1) := by decide +kernel
theorem d_SM_set_23 : decode prog_1_method_4_code 23 = .ok (.ireturn, 1) := by decide +kernel
theorem d_SM_get_0 : decode prog_1_method_5_code 0 = .ok (.iload_n 1, 1) := by decide +kernel
theorem d_SM_get_1 : decode prog_1_method_5_code 1 = .ok (.bipush 32, 2) := by decide +kernel
theorem d_SM_get_3 : decode prog_1_method_5_code 3 = .ok (.invokestatic 37, 3) := by decide +kernel
theorem d_SM_get_6 : decode prog_1_method_5_code 6 = .ok (.ifCond .eq 15, 3) := by decide +kernel
theorem d_SM_get_9 : decode prog_1_method_5_code 9 = .ok (.aload_n 0, 1) := by decide +kernel
theorem d_SM_get_10 : decode prog_1_method_5_code 10 = .ok (.getfield 19, 3) := by decide +kernel
theorem d_SM_get_13 : decode prog_1_method_5_code 13 = .ok (.getfield 41, 3) := by decide +kernel
theorem d_SM_get_16 : decode prog_1_method_5_code 16 = .ok (.iload_n 1, 1) := by decide +kernel
theorem d_SM_get_17 : decode prog_1_method_5_code 17 = .ok (.iaload, 1) := by decide +kernel
theorem d_SM_get_18 : decode prog_1_method_5_code 18 = .ok (.goto 4, 3) := by decide +kernel
theorem d_SM_get_21 : decode prog_1_method_5_code 21 = .ok (.iconst 0, 1) := by decide +kernel
theorem d_SM_get_22 : decode prog_1_method_5_code 22 = .ok (.ireturn, 1) := by decide +kernel
theorem d_SM_ask_0 : decode prog_1_method_6_code 0 = .ok (.iload_n 1, 1) := by decide +kernel
theorem d_SM_ask_1 : decode prog_1_method_6_code 1 = .ok (.bipush 16, 2) := by decide +kernel
theorem d_SM_ask_3 : decode prog_1_method_6_code 3 = .ok (.invokestatic 37, 3) := by decide +kernel
theorem d_SM_ask_6 : decode prog_1_method_6_code 6 = .ok (.ifCond .eq 15, 3) := by decide +kernel
theorem d_SM_ask_9 : decode prog_1_method_6_code 9 = .ok (.iload_n 2, 1) := by decide +kernel
theorem d_SM_ask_10 : decode prog_1_method_6_code 10 = .ok (.iconst (-1), 1) := by decide +kernel
theorem d_SM_ask_11 : decode prog_1_method_6_code 11 = .ok (.if_icmp .lt 10, 3) := by decide +kernel
theorem d_SM_ask_14 : decode prog_1_method_6_code 14 = .ok (.iload_n 2, 1) := by decide +kernel
theorem d_SM_ask_15 : decode prog_1_method_6_code 15 = .ok (.sipush 1023, 3) := by decide +kernel
theorem d_SM_ask_18 : decode prog_1_method_6_code 18 = .ok (.if_icmp .le 5, 3) := by decide +kernel
theorem d_SM_ask_21 : decode prog_1_method_6_code 21 = .ok (.iconst 0, 1) := by decide +kernel
theorem d_SM_ask_22 : decode prog_1_method_6_code 22 = .ok (.ireturn, 1) := by decide +kernel
theorem d_SM_ask_23 : decode prog_1_method_6_code 23 = .ok (.aload_n 0, 1) := by decide +kernel
theorem d_SM_ask_24 : decode prog_1_method_6_code 24 = .ok (.getfield 19, 3) := by decide +kernel
theorem d_SM_ask_27 : decode prog_1_method_6_code 27 = .ok (.getfield 45, 3) := by decide +kernel
theorem d_SM_ask_30 : decode prog_1_method_6_code 30 = .ok (.iload_n 1, 1) := by decide +kernel
theorem d_SM_ask_31 : decode prog_1_method_6_code 31 = .ok (.aaload, 1) := by decide +kernel
theorem d_SM_ask_32 : decode prog_1_method_6_code 32 = .ok (.iload_n 2, 1) := by decide +kernel
theorem d_SM_ask_33 : decode prog_1_method_6_code 33 = .ok (.putfield 49, 3) := by decide +kernel
theorem d_SM_ask_36 : decode prog_1_method_6_code 36 = .ok (.iconst 1, 1) := by decide +kernel
theorem d_SM_ask_37 : decode prog_1_method_6_code 37 = .ok (.ireturn, 1) := by decide +kernel
theorem d_SM_frame_0 : decode prog_1_method_7_code 0 = .ok (.iload_n 1, 1) := by decide +kernel
theorem d_SM_frame_1 : decode prog_1_method_7_code 1 = .ok (.iconst 1, 1) := by decide +kernel
theorem d_SM_frame_2 : decode prog_1_method_7_code 2 = .ok (.if_icmp .lt 10, 3) := by decide +kernel
theorem d_SM_frame_5 : decode prog_1_method_7_code 5 = .ok (.iload_n 1, 1) := by decide +kernel
theorem d_SM_frame_6 : decode prog_1_method_7_code 6 = .ok (.sipush 500, 3) := by decide +kernel
theorem d_SM_frame_9 : decode prog_1_method_7_code 9 = .ok (.if_icmp .le 5, 3) := by decide +kernel
theorem d_SM_frame_12 : decode prog_1_method_7_code 12 = .ok (.iconst (-1), 1) := by decide +kernel
theorem d_SM_frame_13 : decode prog_1_method_7_code 13 = .ok (.ireturn, 1) := by decide +kernel
theorem d_SM_frame_14 : decode prog_1_method_7_code 14 = .ok (.aload_n 0, 1) := by decide +kernel
theorem d_SM_frame_15 : decode prog_1_method_7_code 15 = .ok (.dup, 1) := by decide +kernel
theorem d_SM_frame_16 : decode prog_1_method_7_code 16 = .ok (.getfield 9, 3) := by decide +kernel
theorem d_SM_frame_19 : decode prog_1_method_7_code 19 = .ok (.iconst 1, 1) := by decide +kernel
theorem d_SM_frame_20 : decode prog_1_method_7_code 20 = .ok (.iadd, 1) := by decide +kernel
theorem d_SM_frame_21 : decode prog_1_method_7_code 21 = .ok (.putfield 9, 3) := by decide +kernel
theorem d_SM_frame_24 : decode prog_1_method_7_code 24 = .ok (.aload_n 0, 1) := by decide +kernel
theorem d_SM_frame_25 : decode prog_1_method_7_code 25 = .ok (.iconst 0, 1) := by decide +kernel
theorem d_SM_frame_26 : decode prog_1_method_7_code 26 = .ok (.putfield 13, 3) := by decide +kernel
theorem d_SM_frame_29 : decode prog_1_method_7_code 29 = .ok (.aload_n 0, 1) := by decide +kernel
theorem d_SM_frame_30 : decode prog_1_method_7_code 30 = .ok (.getfield 19, 3) := by decide +kernel
theorem d_SM_frame_33 : decode prog_1_method_7_code 33 = .ok (.getfield 54, 3) := by decide +kernel
theorem d_SM_frame_36 : decode prog_1_method_7_code 36 = .ok (.invokevirtual 58, 3) := by decide +kernel
theorem d_SM_frame_39 : decode prog_1_method_7_code 39 = .ok (.iconst 0, 1) := by decide +kernel
theorem d_SM_frame_40 : decode prog_1_method_7_code 40 = .ok (.istore_n 2, 1) := by decide +kernel
theorem d_SM_frame_41 : decode prog_1_method_7_code 41 = .ok (.iload_n 2, 1) := by decide +kernel
theorem d_SM_frame_42 : decode prog_1_method_7_code 42 = .ok (.bipush 16, 2) := by decide +kernel
theorem d_SM_frame_44 : decode prog_1_method_7_code 44 = .ok (.if_icmp .ge 21, 3) := by decide +kernel
theorem d_SM_frame_47 : decode prog_1_method_7_code 47 = .ok (.aload_n 0, 1) := by decide +kernel
theorem d_SM_frame_48 : decode prog_1_method_7_code 48 = .ok (.getfield 19, 3) := by decide +kernel
theorem d_SM_frame_51 : decode prog_1_method_7_code 51 = .ok (.getfield 45, 3) := by decide +kernel
theorem d_SM_frame_54 : decode prog_1_method_7_code 54 = .ok (.iload_n 2, 1) := by decide +kernel
theorem d_SM_frame_55 : decode prog_1_method_7_code 55 = .ok (.aaload, 1) := by decide +kernel
theorem d_SM_frame_56 : decode prog_1_method_7_code 56 = .ok (.invokevirtual 63, 3) := by decide +kernel
theorem d_SM_frame_59 : decode prog_1_method_7_code 59 = .ok (.iinc 2 1, 3) := by decide +kernel
theorem d_SM_frame_62 : decode prog_1_method_7_code 62 = .ok (.goto (-21), 3) := by decide +kernel
theorem d_SM_frame_65 : decode prog_1_method_7_code 65 = .ok (.iconst 0, 1) := by decide +kernel
theorem d_SM_frame_66 : decode prog_1_method_7_code 66 = .ok (.istore_n 2, 1) := by decide +kernel
theorem d_SM_frame_67 : decode prog_1_method_7_code 67 = .ok (.iconst 0, 1) := by decide +kernel
theorem d_SM_frame_68 : decode prog_1_method_7_code 68 = .ok (.istore_n 3, 1) := by decide +kernel
theorem d_SM_frame_69 : decode prog_1_method_7_code 69 = .ok (.iload_n 3, 1) := by decide +kernel
theorem d_SM_frame_70 : decode prog_1_method_7_code 70 = .ok (.bipush 16, 2) := by decide +kernel
theorem d_SM_frame_72 : decode prog_1_method_7_code 72 = .ok (.if_icmp .ge 53, 3) := by decide +kernel
theorem d_SM_frame_75 : decode prog_1_method_7_code 75 = .ok (.aload_n 0, 1) := by decide +kernel
theorem d_SM_frame_76 : decode prog_1_method_7_code 76 = .ok (.getfield 19, 3) := by decide +kernel
theorem d_SM_frame_79 : decode prog_1_method_7_code 79 = .ok (.getfield 45, 3) := by decide +kernel
theorem d_SM_frame_82 : decode prog_1_method_7_code 82 = .ok (.iload_n 3, 1) := by decide +kernel
theorem d_SM_frame_83 : decode prog_1_method_7_code 83 = .ok (.aaload, 1) := by decide +kernel
theorem d_SM_frame_84 : decode prog_1_method_7_code 84 = .ok (.invokevirtual 66, 3) := by decide +kernel
theorem d_SM_frame_87 : decode prog_1_method_7_code 87 = .ok (.ifCond .eq 32, 3) := by decide +kernel
theorem d_SM_frame_90 : decode prog_1_method_7_code 90 = .ok (.aload_n 0, 1) := by decide +kernel
theorem d_SM_frame_91 : decode prog_1_method_7_code 91 = .ok (.dup, 1) := by decide +kernel
theorem d_SM_frame_92 : decode prog_1_method_7_code 92 = .ok (.getfield 13, 3) := by decide +kernel
theorem d_SM_frame_95 : decode prog_1_method_7_code 95 = .ok (.aload_n 0, 1) := by decide +kernel
theorem d_SM_frame_96 : decode prog_1_method_7_code 96 = .ok (.getfield 19, 3) := by decide +kernel
theorem d_SM_frame_99 : decode prog_1_method_7_code 99 = .ok (.aload_n 0, 1) := by decide +kernel
theorem d_SM_frame_100 : decode prog_1_method_7_code 100 = .ok (.getfield 19, 3) := by decide +kernel
theorem d_SM_frame_103 : decode prog_1_method_7_code 103 = .ok (.getfield 45, 3) := by decide +kernel
theorem d_SM_frame_106 : decode prog_1_method_7_code 106 = .ok (.iload_n 3, 1) := by decide +kernel
theorem d_SM_frame_107 : decode prog_1_method_7_code 107 = .ok (.aaload, 1) := by decide +kernel
theorem d_SM_frame_108 : decode prog_1_method_7_code 108 = .ok (.iload_n 1, 1) := by decide +kernel
theorem d_SM_frame_109 : decode prog_1_method_7_code 109 = .ok (.invokevirtual 70, 3) := by decide +kernel
theorem d_SM_frame_112 : decode prog_1_method_7_code 112 = .ok (.iadd, 1) := by decide +kernel
theorem d_SM_frame_113 : decode prog_1_method_7_code 113 = .ok (.putfield 13, 3) := by decide +kernel
theorem d_SM_frame_116 : decode prog_1_method_7_code 116 = .ok (.iinc 2 1, 3) := by decide +kernel
theorem d_SM_frame_119 : decode prog_1_method_7_code 119 = .ok (.iinc 3 1, 3) := by decide +kernel
theorem d_SM_frame_122 : decode prog_1_method_7_code 122 = .ok (.goto (-53), 3) := by decide +kernel
theorem d_SM_frame_125 : decode prog_1_method_7_code 125 = .ok (.iload_n 2, 1) := by decide +kernel
theorem d_SM_frame_126 : decode prog_1_method_7_code 126 = .ok (.ireturn, 1) := by decide +kernel
theorem d_SM_channel_0 : decode prog_1_method_8_code 0 = .ok (.iload_n 1, 1) := by decide +kernel
theorem d_SM_channel_1 : decode prog_1_method_8_code 1 = .ok (.bipush 16, 2) := by decide +kernel
theorem d_SM_channel_3 : decode prog_1_method_8_code 3 = .ok (.invokestatic 37, 3) := by decide +kernel
theorem d_SM_channel_6 : decode prog_1_method_8_code 6 = .ok (.ifCond .ne 5, 3) := by decide +kernel
theorem d_SM_channel_9 : decode prog_1_method_8_code 9 = .ok (.iconst (-1), 1) := by decide +kernel
theorem d_SM_channel_10 : decode prog_1_method_8_code 10 = .ok (.ireturn, 1) := by decide +kernel
theorem d_SM_channel_11 : decode prog_1_method_8_code 11 = .ok (.aload_n 0, 1) := by decide +kernel
theorem d_SM_channel_12 : decode prog_1_method_8_code 12 = .ok (.getfield 19, 3) := by decide +kernel
theorem d_SM_channel_15 : decode prog_1_method_8_code 15 = .ok (.getfield 45, 3) := by decide +kernel
theorem d_SM_channel_18 : decode prog_1_method_8_code 18 = .ok (.iload_n 1, 1) := by decide +kernel
theorem d_SM_channel_19 : decode prog_1_method_8_code 19 = .ok (.aaload, 1) := by decide +kernel
theorem d_SM_channel_20 : decode prog_1_method_8_code 20 = .ok (.astore_n 3, 1) := by decide +kernel
theorem d_SM_channel_21 : decode prog_1_method_8_code 21 = .ok (.iload_n 2, 1) := by decide +kernel
theorem d_SM_channel_22 : decode prog_1_method_8_code 22 = .ok (.tableswitch 67 0 4 #[34, 39, 52, 57, 62], 34) := by decide +kernel
theorem d_SM_channel_56 : decode prog_1_method_8_code 56 = .ok (.aload_n 3, 1) := by decide +kernel
theorem d_SM_channel_57 : decode prog_1_method_8_code 57 = .ok (.getfield 74, 3) := by decide +kernel
theorem d_SM_channel_60 : decode prog_1_method_8_code 60 = .ok (.ireturn, 1) := by decide +kernel
theorem d_SM_channel_61 : decode prog_1_method_8_code 61 = .ok (.aload_n 3, 1) := by decide +kernel
theorem d_SM_channel_62 : decode prog_1_method_8_code 62 = .ok (.getfield 77, 3) := by decide +kernel
theorem d_SM_channel_65 : decode prog_1_method_8_code 65 = .ok (.ifCond .eq 7, 3) := by decide +kernel
theorem d_SM_channel_68 : decode prog_1_method_8_code 68 = .ok (.iconst 1, 1) := by decide +kernel
theorem d_SM_channel_69 : decode prog_1_method_8_code 69 = .ok (.goto 4, 3) := by decide +kernel
theorem d_SM_channel_72 : decode prog_1_method_8_code 72 = .ok (.iconst 0, 1) := by decide +kernel
theorem d_SM_channel_73 : decode prog_1_method_8_code 73 = .ok (.ireturn, 1) := by decide +kernel
theorem d_SM_channel_74 : decode prog_1_method_8_code 74 = .ok (.aload_n 3, 1) := by decide +kernel
theorem d_SM_channel_75 : decode prog_1_method_8_code 75 = .ok (.getfield 81, 3) := by decide +kernel
theorem d_SM_channel_78 : decode prog_1_method_8_code 78 = .ok (.ireturn, 1) := by decide +kernel
theorem d_SM_channel_79 : decode prog_1_method_8_code 79 = .ok (.aload_n 3, 1) := by decide +kernel
theorem d_SM_channel_80 : decode prog_1_method_8_code 80 = .ok (.getfield 84, 3) := by decide +kernel
theorem d_SM_channel_83 : decode prog_1_method_8_code 83 = .ok (.ireturn, 1) := by decide +kernel
theorem d_SM_channel_84 : decode prog_1_method_8_code 84 = .ok (.aload_n 3, 1) := by decide +kernel
theorem d_SM_channel_85 : decode prog_1_method_8_code 85 = .ok (.getfield 49, 3) := by decide +kernel
theorem d_SM_channel_88 : decode prog_1_method_8_code 88 = .ok (.ireturn, 1) := by decide +kernel
theorem d_SM_channel_89 : decode prog_1_method_8_code 89 = .ok (.iconst (-1), 1) := by decide +kernel
theorem d_SM_channel_90 : decode prog_1_method_8_code 90 = .ok (.ireturn, 1) := by decide +kernel
theorem d_SM_pixel_0 : decode prog_1_method_9_code 0 = .ok (.iload_n 1, 1) := by decide +kernel
theorem d_SM_pixel_1 : decode prog_1_method_9_code 1 = .ok (.iconst 4, 1) := by decide +kernel
theorem d_SM_pixel_2 : decode prog_1_method_9_code 2 = .ok (.invokestatic 37, 3) := by decide +kernel
theorem d_SM_pixel_5 : decode prog_1_method_9_code 5 = .ok (.ifCond .eq 21, 3) := by decide +kernel
theorem d_SM_pixel_8 : decode prog_1_method_9_code 8 = .ok (.iload_n 2, 1) := by decide +kernel
theorem d_SM_pixel_9 : decode prog_1_method_9_code 9 = .ok (.bipush 64, 2) := by decide +kernel
theorem d_SM_pixel_11 : decode prog_1_method_9_code 11 = .ok (.invokestatic 37, 3) := by decide +kernel
theorem d_SM_pixel_14 : decode prog_1_method_9_code 14 = .ok (.ifCond .eq 12, 3) := by decide +kernel
theorem d_SM_pixel_17 : decode prog_1_method_9_code 17 = .ok (.iload_n 3, 1) := by decide +kernel
theorem d_SM_pixel_18 : decode prog_1_method_9_code 18 = .ok (.bipush 40, 2) := by decide +kernel
theorem d_SM_pixel_20 : decode prog_1_method_9_code 20 = .ok (.invokestatic 37, 3) := by decide +kernel
theorem d_SM_pixel_23 : decode prog_1_method_9_code 23 = .ok (.ifCond .ne 5, 3) := by decide +kernel
theorem d_SM_pixel_26 : decode prog_1_method_9_code 26 = .ok (.iconst (-1), 1) := by decide +kernel
theorem d_SM_pixel_27 : decode prog_1_method_9_code 27 = .ok (.ireturn, 1) := by decide +kernel
theorem d_SM_pixel_28 : decode prog_1_method_9_code 28 = .ok (.aload_n 0, 1) := by decide +kernel
theorem d_SM_pixel_29 : decode prog_1_method_9_code 29 = .ok (.getfield 19, 3) := by decide +kernel
theorem d_SM_pixel_32 : decode prog_1_method_9_code 32 = .ok (.getfield 54, 3) := by decide +kernel
theorem d_SM_pixel_35 : decode prog_1_method_9_code 35 = .ok (.getfield 87, 3) := by decide +kernel
theorem d_SM_pixel_38 : decode prog_1_method_9_code 38 = .ok (.iload_n 1, 1) := by decide +kernel
theorem d_SM_pixel_39 : decode prog_1_method_9_code 39 = .ok (.iload_n 2, 1) := by decide +kernel
theorem d_SM_pixel_40 : decode prog_1_method_9_code 40 = .ok (.iload_n 3, 1) := by decide +kernel
theorem d_SM_pixel_41 : decode prog_1_method_9_code 41 = .ok (.invokevirtual 91, 3) := by decide +kernel
theorem d_SM_pixel_44 : decode prog_1_method_9_code 44 = .ok (.ireturn, 1) := by decide +kernel
theorem d_SM_about_0 : decode prog_1_method_10_code 0 = .ok (.iload_n 1, 1) := by decide +kernel
theorem d_SM_about_1 : decode prog_1_method_10_code 1 = .ok (.tableswitch 99 0 5 #[39, 53, 67, 72, 77, 88], 39) := by decide +kernel
theorem d_SM_about_40 : decode prog_1_method_10_code 40 = .ok (.aload_n 0, 1) := by decide +kernel
theorem d_SM_about_41 : decode prog_1_method_10_code 41 = .ok (.getfield 19, 3) := by decide +kernel
theorem d_SM_about_44 : decode prog_1_method_10_code 44 = .ok (.getfield 54, 3) := by decide +kernel
theorem d_SM_about_47 : decode prog_1_method_10_code 47 = .ok (.getfield 87, 3) := by decide +kernel
theorem d_SM_about_50 : decode prog_1_method_10_code 50 = .ok (.getfield 97, 3) := by decide +kernel
theorem d_SM_about_53 : decode prog_1_method_10_code 53 = .ok (.ireturn, 1) := by decide +kernel
theorem d_SM_about_54 : decode prog_1_method_10_code 54 = .ok (.aload_n 0, 1) := by decide +kernel
theorem d_SM_about_55 : decode prog_1_method_10_code 55 = .ok (.getfield 19, 3) := by decide +kernel
theorem d_SM_about_58 : decode prog_1_method_10_code 58 = .ok (.getfield 54, 3) := by decide +kernel
theorem d_SM_about_61 : decode prog_1_method_10_code 61 = .ok (.getfield 87, 3) := by decide +kernel
theorem d_SM_about_64 : decode prog_1_method_10_code 64 = .ok (.getfield 100, 3) := by decide +kernel
theorem d_SM_about_67 : decode prog_1_method_10_code 67 = .ok (.ireturn, 1) := by decide +kernel
theorem d_SM_about_68 : decode prog_1_method_10_code 68 = .ok (.aload_n 0, 1) := by decide +kernel
theorem d_SM_about_69 : decode prog_1_method_10_code 69 = .ok (.getfield 9, 3) := by decide +kernel
theorem d_SM_about_72 : decode prog_1_method_10_code 72 = .ok (.ireturn, 1) := by decide +kernel
theorem d_SM_about_73 : decode prog_1_method_10_code 73 = .ok (.aload_n 0, 1) := by decide +kernel
theorem d_SM_about_74 : decode prog_1_method_10_code 74 = .ok (.getfield 13, 3) := by decide +kernel
theorem d_SM_about_77 : decode prog_1_method_10_code 77 = .ok (.ireturn, 1) := by decide +kernel
theorem d_SM_about_78 : decode prog_1_method_10_code 78 = .ok (.aload_n 0, 1) := by decide +kernel
theorem d_SM_about_79 : decode prog_1_method_10_code 79 = .ok (.getfield 19, 3) := by decide +kernel
theorem d_SM_about_82 : decode prog_1_method_10_code 82 = .ok (.getfield 54, 3) := by decide +kernel
theorem d_SM_about_85 : decode prog_1_method_10_code 85 = .ok (.getfield 103, 3) := by decide +kernel
theorem d_SM_about_88 : decode prog_1_method_10_code 88 = .ok (.ireturn, 1) := by decide +kernel
theorem d_SM_about_89 : decode prog_1_method_10_code 89 = .ok (.aload_n 0, 1) := by decide +kernel
theorem d_SM_about_90 : decode prog_1_method_10_code 90 = .ok (.getfield 19, 3) := by decide +kernel
theorem d_SM_about_93 : decode prog_1_method_10_code 93 = .ok (.getfield 54, 3) := by decide +kernel
theorem d_SM_about_96 : decode prog_1_method_10_code 96 = .ok (.getfield 106, 3) := by decide +kernel
theorem d_SM_about_99 : decode prog_1_method_10_code 99 = .ok (.ireturn, 1) := by decide +kernel
theorem d_SM_about_100 : decode prog_1_method_10_code 100 = .ok (.iconst (-1), 1) := by decide +kernel
theorem d_SM_about_101 : decode prog_1_method_10_code 101 = .ok (.ireturn, 1) := by decide +kernel
theorem d_SM_bytesOf_0 : decode prog_1_method_11_code 0 = .ok (.iload_n 1, 1) := by decide +kernel
theorem d_SM_bytesOf_1 : decode prog_1_method_11_code 1 = .ok (.ifCond .ne 11, 3) := by decide +kernel
theorem d_SM_bytesOf_4 : decode prog_1_method_11_code 4 = .ok (.aload_n 0, 1) := by decide +kernel
theorem d_SM_bytesOf_5 : decode prog_1_method_11_code 5 = .ok (.getfield 19, 3) := by decide +kernel
theorem d_SM_bytesOf_8 : decode prog_1_method_11_code 8 = .ok (.getfield 109, 3) := by decide +kernel
theorem d_SM_bytesOf_11 : decode prog_1_method_11_code 11 = .ok (.areturn, 1) := by decide +kernel
theorem d_SM_bytesOf_12 : decode prog_1_method_11_code 12 = .ok (.iload_n 1, 1) := by decide +kernel
theorem d_SM_bytesOf_13 : decode prog_1_method_11_code 13 = .ok (.iconst 1, 1) := by decide +kernel
theorem d_SM_bytesOf_14 : decode prog_1_method_11_code 14 = .ok (.if_icmp .ne 16, 3) := by decide +kernel
theorem d_SM_bytesOf_17 : decode prog_1_method_11_code 17 = .ok (.aload_n 0, 1) := by decide +kernel
theorem d_SM_bytesOf_18 : decode prog_1_method_11_code 18 = .ok (.getfield 19, 3) := by decide +kernel
theorem d_SM_bytesOf_21 : decode prog_1_method_11_code 21 = .ok (.getfield 54, 3) := by decide +kernel
theorem d_SM_bytesOf_24 : decode prog_1_method_11_code 24 = .ok (.getfield 113, 3) := by decide +kernel
theorem d_SM_bytesOf_27 : decode prog_1_method_11_code 27 = .ok (.goto 4, 3) := by decide +kernel
theorem d_SM_bytesOf_30 : decode prog_1_method_11_code 30 = .ok (.aconst_null, 1) := by decide +kernel
theorem d_SM_bytesOf_31 : decode prog_1_method_11_code 31 = .ok (.areturn, 1) := by decide +kernel
theorem d_SM_isBelow_0 : decode prog_1_method_12_code 0 = .ok (.iload_n 0, 1) := by decide +kernel
theorem d_SM_isBelow_1 : decode prog_1_method_12_code 1 = .ok (.ifCond .lt 12, 3) := by decide +kernel
theorem d_SM_isBelow_4 : decode prog_1_method_12_code 4 = .ok (.iload_n 0, 1) := by decide +kernel
theorem d_SM_isBelow_5 : decode prog_1_method_12_code 5 = .ok (.iload_n 1, 1) := by decide +kernel
theorem d_SM_isBelow_6 : decode prog_1_method_12_code 6 = .ok (.if_icmp .ge 7, 3) := by decide +kernel
theorem d_SM_isBelow_9 : decode prog_1_method_12_code 9 = .ok (.iconst 1, 1) := by decide +kernel
theorem d_SM_isBelow_10 : decode prog_1_method_12_code 10 = .ok (.goto 4, 3) := by decide +kernel
theorem d_SM_isBelow_13 : decode prog_1_method_12_code 13 = .ok (.iconst 0, 1) := by decide +kernel
theorem d_SM_isBelow_14 : decode prog_1_method_12_code 14 = .ok (.ireturn, 1) := by decide +kernel
theorem d_Bytes_read_0 : decode prog_2_method_2_code 0 = .ok (.aload_n 0, 1) := by decide +kernel
theorem d_Bytes_read_1 : decode prog_2_method_2_code 1 = .ok (.getfield 9, 3) := by decide +kernel
theorem d_Bytes_read_4 : decode prog_2_method_2_code 4 = .ok (.iload_n 1, 1) := by decide +kernel
theorem d_Bytes_read_5 : decode prog_2_method_2_code 5 = .ok (.sipush 1023, 3) := by decide +kernel
theorem d_Bytes_read_8 : decode prog_2_method_2_code 8 = .ok (.iand, 1) := by decide +kernel
theorem d_Bytes_read_9 : decode prog_2_method_2_code 9 = .ok (.iaload, 1) := by decide +kernel
theorem d_Bytes_read_10 : decode prog_2_method_2_code 10 = .ok (.ireturn, 1) := by decide +kernel
theorem d_Bytes_readPair_0 : decode prog_2_method_3_code 0 = .ok (.aload_n 0, 1) := by decide +kernel
theorem d_Bytes_readPair_1 : decode prog_2_method_3_code 1 = .ok (.getfield 9, 3) := by decide +kernel
theorem d_Bytes_readPair_4 : decode prog_2_method_3_code 4 = .ok (.iload_n 1, 1) := by decide +kernel
theorem d_Bytes_readPair_5 : decode prog_2_method_3_code 5 = .ok (.sipush 1023, 3) := by decide +kernel
theorem d_Bytes_readPair_8 : decode prog_2_method_3_code 8 = .ok (.iand, 1) := by decide +kernel
theorem d_Bytes_readPair_9 : decode prog_2_method_3_code 9 = .ok (.iaload, 1) := by decide +kernel
theorem d_Bytes_readPair_10 : decode prog_2_method_3_code 10 = .ok (.istore_n 2, 1) := by decide +kernel
theorem d_Bytes_readPair_11 : decode prog_2_method_3_code 11 = .ok (.iload_n 2, 1) := by decide +kernel
theorem d_Bytes_readPair_12 : decode prog_2_method_3_code 12 = .ok (.bipush 8, 2) := by decide +kernel
theorem d_Bytes_readPair_14 : decode prog_2_method_3_code 14 = .ok (.ishl, 1) := by decide +kernel
theorem d_Bytes_readPair_15 : decode prog_2_method_3_code 15 = .ok (.aload_n 0, 1) := by decide +kernel
theorem d_Bytes_readPair_16 : decode prog_2_method_3_code 16 = .ok (.getfield 9, 3) := by decide +kernel
theorem d_Bytes_readPair_19 : decode prog_2_method_3_code 19 = .ok (.iload_n 1, 1) := by decide +kernel
theorem d_Bytes_readPair_20 : decode prog_2_method_3_code 20 = .ok (.iconst 1, 1) := by decide +kernel
theorem d_Bytes_readPair_21 : decode prog_2_method_3_code 21 = .ok (.iadd, 1) := by decide +kernel
theorem d_Bytes_readPair_22 : decode prog_2_method_3_code 22 = .ok (.sipush 1023, 3) := by decide +kernel
theorem d_Bytes_readPair_25 : decode prog_2_method_3_code 25 = .ok (.iand, 1) := by decide +kernel
theorem d_Bytes_readPair_26 : decode prog_2_method_3_code 26 = .ok (.iaload, 1) := by decide +kernel
theorem d_Bytes_readPair_27 : decode prog_2_method_3_code 27 = .ok (.ior, 1) := by decide +kernel
theorem d_Bytes_readPair_28 : decode prog_2_method_3_code 28 = .ok (.ireturn, 1) := by decide +kernel
theorem d_Bytes_write_0 : decode prog_2_method_4_code 0 = .ok (.aload_n 0, 1) := by decide +kernel
theorem d_Bytes_write_1 : decode prog_2_method_4_code 1 = .ok (.getfield 9, 3) := by decide +kernel
theorem d_Bytes_write_4 : decode prog_2_method_4_code 4 = .ok (.iload_n 1, 1) := by decide +kernel
theorem d_Bytes_write_5 : decode prog_2_method_4_code 5 = .ok (.sipush 1023, 3) := by decide +kernel
theorem d_Bytes_write_8 : decode prog_2_method_4_code 8 = .ok (.iand, 1) := by decide +kernel
theorem d_Bytes_write_9 : decode prog_2_method_4_code 9 = .ok (.iload_n 2, 1) := by decide +kernel
theorem d_Bytes_write_10 : decode prog_2_method_4_code 10 = .ok (.sipush 255, 3) := by decide +kernel
theorem d_Bytes_write_13 : decode prog_2_method_4_code 13 = .ok (.iand, 1) := by decide +kernel
theorem d_Bytes_write_14 : decode prog_2_method_4_code 14 = .ok (.iastore, 1) := by decide +kernel
theorem d_Bytes_write_15 : decode prog_2_method_4_code 15 = .ok (.return_, 1) := by decide +kernel
theorem d_Channel_isRunning_0 : decode prog_3_method_2_code 0 = .ok (.aload_n 0, 1) := by decide +kernel
theorem d_Channel_isRunning_1 : decode prog_3_method_2_code 1 = .ok (.getfield 19, 3) := by decide +kernel
theorem d_Channel_isRunning_4 : decode prog_3_method_2_code 4 = .ok (.iconst (-1), 1) := by decide +kernel
theorem d_Channel_isRunning_5 : decode prog_3_method_2_code 5 = .ok (.if_icmp .eq 14, 3) := by decide +kernel
theorem d_Channel_isRunning_8 : decode prog_3_method_2_code 8 = .ok (.aload_n 0, 1) := by decide +kernel
theorem d_Channel_isRunning_9 : decode prog_3_method_2_code 9 = .ok (.getfield 22, 3) := by decide +kernel
theorem d_Channel_isRunning_12 : decode prog_3_method_2_code 12 = .ok (.ifCond .ne 7, 3) := by decide +kernel
theorem d_Channel_isRunning_15 : decode prog_3_method_2_code 15 = .ok (.iconst 1, 1) := by decide +kernel
theorem d_Channel_isRunning_16 : decode prog_3_method_2_code 16 = .ok (.goto 4, 3) := by decide +kernel
theorem d_Channel_isRunning_19 : decode prog_3_method_2_code 19 = .ok (.iconst 0, 1) := by decide +kernel
theorem d_Channel_isRunning_20 : decode prog_3_method_2_code 20 = .ok (.ireturn, 1) := by decide +kernel
theorem d_Channel_settleAsked_0 : decode prog_3_method_3_code 0 = .ok (.aload_n 0, 1) := by decide +kernel
theorem d_Channel_settleAsked_1 : decode prog_3_method_3_code 1 = .ok (.getfield 29, 3) := by decide +kernel
theorem d_Channel_settleAsked_4 : decode prog_3_method_3_code 4 = .ok (.bipush (-2), 2) := by decide +kernel
theorem d_Channel_settleAsked_6 : decode prog_3_method_3_code 6 = .ok (.if_icmp .eq 22, 3) := by decide +kernel
theorem d_Channel_settleAsked_9 : decode prog_3_method_3_code 9 = .ok (.aload_n 0, 1) := by decide +kernel
theorem d_Channel_settleAsked_10 : decode prog_3_method_3_code 10 = .ok (.aload_n 0, 1) := by decide +kernel
theorem d_Channel_settleAsked_11 : decode prog_3_method_3_code 11 = .ok (.getfield 29, 3) := by decide +kernel
theorem d_Channel_settleAsked_14 : decode prog_3_method_3_code 14 = .ok (.putfield 19, 3) := by decide +kernel
theorem d_Channel_settleAsked_17 : decode prog_3_method_3_code 17 = .ok (.aload_n 0, 1) := by decide +kernel
theorem d_Channel_settleAsked_18 : decode prog_3_method_3_code 18 = .ok (.iconst 0, 1) := by decide +kernel
theorem d_Channel_settleAsked_19 : decode prog_3_method_3_code 19 = .ok (.putfield 15, 3) := by decide +kernel
theorem d_Channel_settleAsked_22 : decode prog_3_method_3_code 22 = .ok (.aload_n 0, 1) := by decide +kernel
theorem d_Channel_settleAsked_23 : decode prog_3_method_3_code 23 = .ok (.bipush (-2), 2) := by decide +kernel
theorem d_Channel_settleAsked_25 : decode prog_3_method_3_code 25 = .ok (.putfield 29, 3) := by decide +kernel
theorem d_Channel_settleAsked_28 : decode prog_3_method_3_code 28 = .ok (.aload_n 0, 1) := by decide +kernel
theorem d_Channel_settleAsked_29 : decode prog_3_method_3_code 29 = .ok (.getfield 32, 3) := by decide +kernel
theorem d_Channel_settleAsked_32 : decode prog_3_method_3_code 32 = .ok (.bipush (-2), 2) := by decide +kernel
theorem d_Channel_settleAsked_34 : decode prog_3_method_3_code 34 = .ok (.if_icmp .eq 26, 3) := by decide +kernel
theorem d_Channel_settleAsked_37 : decode prog_3_method_3_code 37 = .ok (.aload_n 0, 1) := by decide +kernel
theorem d_Channel_settleAsked_38 : decode prog_3_method_3_code 38 = .ok (.aload_n 0, 1) := by decide +kernel
theorem d_Channel_settleAsked_39 : decode prog_3_method_3_code 39 = .ok (.getfield 32, 3) := by decide +kernel
theorem d_Channel_settleAsked_42 : decode prog_3_method_3_code 42 = .ok (.iconst 1, 1) := by decide +kernel
theorem d_Channel_settleAsked_43 : decode prog_3_method_3_code 43 = .ok (.if_icmp .ne 7, 3) := by decide +kernel
theorem d_Channel_settleAsked_46 : decode prog_3_method_3_code 46 = .ok (.iconst 1, 1) := by decide +kernel
theorem d_Channel_settleAsked_47 : decode prog_3_method_3_code 47 = .ok (.goto 4, 3) := by decide +kernel
theorem d_Channel_settleAsked_50 : decode prog_3_method_3_code 50 = .ok (.iconst 0, 1) := by decide +kernel
theorem d_Channel_settleAsked_51 : decode prog_3_method_3_code 51 = .ok (.putfield 22, 3) := by decide +kernel
theorem d_Channel_settleAsked_54 : decode prog_3_method_3_code 54 = .ok (.aload_n 0, 1) := by decide +kernel
theorem d_Channel_settleAsked_55 : decode prog_3_method_3_code 55 = .ok (.bipush (-2), 2) := by decide +kernel
theorem d_Channel_settleAsked_57 : decode prog_3_method_3_code 57 = .ok (.putfield 32, 3) := by decide +kernel
theorem d_Channel_settleAsked_60 : decode prog_3_method_3_code 60 = .ok (.return_, 1) := by decide +kernel
theorem d_Channel_pushReturn_0 : decode prog_3_method_4_code 0 = .ok (.aload_n 0, 1) := by decide +kernel
theorem d_Channel_pushReturn_1 : decode prog_3_method_4_code 1 = .ok (.getfield 15, 3) := by decide +kernel
theorem d_Channel_pushReturn_4 : decode prog_3_method_4_code 4 = .ok (.ifCond .lt 12, 3) := by decide +kernel
theorem d_Channel_pushReturn_7 : decode prog_3_method_4_code 7 = .ok (.aload_n 0, 1) := by decide +kernel
theorem d_Channel_pushReturn_8 : decode prog_3_method_4_code 8 = .ok (.getfield 15, 3) := by decide +kernel
theorem d_Channel_pushReturn_11 : decode prog_3_method_4_code 11 = .ok (.bipush 8, 2) := by decide +kernel
theorem d_Channel_pushReturn_13 : decode prog_3_method_4_code 13 = .ok (.if_icmp .lt 5, 3) := by decide +kernel
theorem d_Channel_pushReturn_16 : decode prog_3_method_4_code 16 = .ok (.iconst 0, 1) := by decide +kernel
theorem d_Channel_pushReturn_17 : decode prog_3_method_4_code 17 = .ok (.ireturn, 1) := by decide +kernel
theorem d_Channel_pushReturn_18 : decode prog_3_method_4_code 18 = .ok (.aload_n 0, 1) := by decide +kernel
theorem d_Channel_pushReturn_19 : decode prog_3_method_4_code 19 = .ok (.getfield 9, 3) := by decide +kernel
theorem d_Channel_pushReturn_22 : decode prog_3_method_4_code 22 = .ok (.aload_n 0, 1) := by decide +kernel
theorem d_Channel_pushReturn_23 : decode prog_3_method_4_code 23 = .ok (.getfield 15, 3) := by decide +kernel
theorem d_Channel_pushReturn_26 : decode prog_3_method_4_code 26 = .ok (.iload_n 1, 1) := by decide +kernel
theorem d_Channel_pushReturn_27 : decode prog_3_method_4_code 27 = .ok (.iastore, 1) := by decide +kernel
theorem d_Channel_pushReturn_28 : decode prog_3_method_4_code 28 = .ok (.aload_n 0, 1) := by decide +kernel
theorem d_Channel_pushReturn_29 : decode prog_3_method_4_code 29 = .ok (.dup, 1) := by decide +kernel
theorem d_Channel_pushReturn_30 : decode prog_3_method_4_code 30 = .ok (.getfield 15, 3) := by decide +kernel
theorem d_Channel_pushReturn_33 : decode prog_3_method_4_code 33 = .ok (.iconst 1, 1) := by decide +kernel
theorem d_Channel_pushReturn_34 : decode prog_3_method_4_code 34 = .ok (.iadd, 1) := by decide +kernel
theorem d_Channel_pushReturn_35 : decode prog_3_method_4_code 35 = .ok (.putfield 15, 3) := by decide +kernel
theorem d_Channel_pushReturn_38 : decode prog_3_method_4_code 38 = .ok (.iconst 1, 1) := by decide +kernel
theorem d_Channel_pushReturn_39 : decode prog_3_method_4_code 39 = .ok (.ireturn, 1) := by decide +kernel
theorem d_Channel_popReturn_0 : decode prog_3_method_5_code 0 = .ok (.aload_n 0, 1) := by decide +kernel
theorem d_Channel_popReturn_1 : decode prog_3_method_5_code 1 = .ok (.getfield 15, 3) := by decide +kernel
theorem d_Channel_popReturn_4 : decode prog_3_method_5_code 4 = .ok (.iconst 1, 1) := by decide +kernel
theorem d_Channel_popReturn_5 : decode prog_3_method_5_code 5 = .ok (.if_icmp .lt 12, 3) := by decide +kernel
theorem d_Channel_popReturn_8 : decode prog_3_method_5_code 8 = .ok (.aload_n 0, 1) := by decide +kernel
theorem d_Channel_popReturn_9 : decode prog_3_method_5_code 9 = .ok (.getfield 15, 3) := by decide +kernel
theorem d_Channel_popReturn_12 : decode prog_3_method_5_code 12 = .ok (.bipush 8, 2) := by decide +kernel
theorem d_Channel_popReturn_14 : decode prog_3_method_5_code 14 = .ok (.if_icmp .le 5, 3) := by decide +kernel
theorem d_Channel_popReturn_17 : decode prog_3_method_5_code 17 = .ok (.iconst (-1), 1) := by decide +kernel
theorem d_Channel_popReturn_18 : decode prog_3_method_5_code 18 = .ok (.ireturn, 1) := by decide +kernel
theorem d_Channel_popReturn_19 : decode prog_3_method_5_code 19 = .ok (.aload_n 0, 1) := by decide +kernel
theorem d_Channel_popReturn_20 : decode prog_3_method_5_code 20 = .ok (.dup, 1) := by decide +kernel
theorem d_Channel_popReturn_21 : decode prog_3_method_5_code 21 = .ok (.getfield 15, 3) := by decide +kernel
theorem d_Channel_popReturn_24 : decode prog_3_method_5_code 24 = .ok (.iconst 1, 1) := by decide +kernel
theorem d_Channel_popReturn_25 : decode prog_3_method_5_code 25 = .ok (.isub, 1) := by decide +kernel
theorem d_Channel_popReturn_26 : decode prog_3_method_5_code 26 = .ok (.putfield 15, 3) := by decide +kernel
theorem d_Channel_popReturn_29 : decode prog_3_method_5_code 29 = .ok (.aload_n 0, 1) := by decide +kernel
theorem d_Channel_popReturn_30 : decode prog_3_method_5_code 30 = .ok (.getfield 9, 3) := by decide +kernel
theorem d_Channel_popReturn_33 : decode prog_3_method_5_code 33 = .ok (.aload_n 0, 1) := by decide +kernel
theorem d_Channel_popReturn_34 : decode prog_3_method_5_code 34 = .ok (.getfield 15, 3) := by decide +kernel
theorem d_Channel_popReturn_37 : decode prog_3_method_5_code 37 = .ok (.iaload, 1) := by decide +kernel
theorem d_Channel_popReturn_38 : decode prog_3_method_5_code 38 = .ok (.ireturn, 1) := by decide +kernel
theorem d_Pages_pageOf_0 : decode prog_4_method_2_code 0 = .ok (.iload_n 1, 1) := by decide +kernel
theorem d_Pages_pageOf_1 : decode prog_4_method_2_code 1 = .ok (.sipush 128, 3) := by decide +kernel
theorem d_Pages_pageOf_4 : decode prog_4_method_2_code 4 = .ok (.if_icmp .ge 7, 3) := by decide +kernel
theorem d_Pages_pageOf_7 : decode prog_4_method_2_code 7 = .ok (.iload_n 1, 1) := by decide +kernel
theorem d_Pages_pageOf_8 : decode prog_4_method_2_code 8 = .ok (.iconst 3, 1) := by decide +kernel
theorem d_Pages_pageOf_9 : decode prog_4_method_2_code 9 = .ok (.iand, 1) := by decide +kernel
theorem d_Pages_pageOf_10 : decode prog_4_method_2_code 10 = .ok (.ireturn, 1) := by decide +kernel
theorem d_Pages_pageOf_11 : decode prog_4_method_2_code 11 = .ok (.iload_n 1, 1) := by decide +kernel
theorem d_Pages_pageOf_12 : decode prog_4_method_2_code 12 = .ok (.sipush 254, 3) := by decide +kernel
theorem d_Pages_pageOf_15 : decode prog_4_method_2_code 15 = .ok (.if_icmp .ne 10, 3) := by decide +kernel
theorem d_Pages_pageOf_18 : decode prog_4_method_2_code 18 = .ok (.aload_n 0, 1) := by decide +kernel
theorem d_Pages_pageOf_19 : decode prog_4_method_2_code 19 = .ok (.getfield 19, 3) := by decide +kernel
theorem d_Pages_pageOf_22 : decode prog_4_method_2_code 22 = .ok (.goto 7, 3) := by decide +kernel
theorem d_Pages_pageOf_25 : decode prog_4_method_2_code 25 = .ok (.aload_n 0, 1) := by decide +kernel
theorem d_Pages_pageOf_26 : decode prog_4_method_2_code 26 = .ok (.getfield 15, 3) := by decide +kernel
theorem d_Pages_pageOf_29 : decode prog_4_method_2_code 29 = .ok (.ireturn, 1) := by decide +kernel
theorem d_Pages_colourAt_0 : decode prog_4_method_3_code 0 = .ok (.aload_n 0, 1) := by decide +kernel
theorem d_Pages_colourAt_1 : decode prog_4_method_3_code 1 = .ok (.getfield 11, 3) := by decide +kernel
theorem d_Pages_colourAt_4 : decode prog_4_method_3_code 4 = .ok (.iload_n 1, 1) := by decide +kernel
theorem d_Pages_colourAt_5 : decode prog_4_method_3_code 5 = .ok (.sipush 2560, 3) := by decide +kernel
theorem d_Pages_colourAt_8 : decode prog_4_method_3_code 8 = .ok (.imul, 1) := by decide +kernel
theorem d_Pages_colourAt_9 : decode prog_4_method_3_code 9 = .ok (.iload_n 3, 1) := by decide +kernel
theorem d_Pages_colourAt_10 : decode prog_4_method_3_code 10 = .ok (.bipush 64, 2) := by decide +kernel
theorem d_Pages_colourAt_12 : decode prog_4_method_3_code 12 = .ok (.imul, 1) := by decide +kernel
theorem d_Pages_colourAt_13 : decode prog_4_method_3_code 13 = .ok (.iadd, 1) := by decide +kernel
theorem d_Pages_colourAt_14 : decode prog_4_method_3_code 14 = .ok (.iload_n 2, 1) := by decide +kernel
theorem d_Pages_colourAt_15 : decode prog_4_method_3_code 15 = .ok (.iadd, 1) := by decide +kernel
theorem d_Pages_colourAt_16 : decode prog_4_method_3_code 16 = .ok (.baload, 1) := by decide +kernel
theorem d_Pages_colourAt_17 : decode prog_4_method_3_code 17 = .ok (.ireturn, 1) := by decide +kernel
theorem d_Pages_fill_0 : decode prog_4_method_4_code 0 = .ok (.iload_n 1, 1) := by decide +kernel
theorem d_Pages_fill_1 : decode prog_4_method_4_code 1 = .ok (.sipush 2560, 3) := by decide +kernel
theorem d_Pages_fill_4 : decode prog_4_method_4_code 4 = .ok (.imul, 1) := by decide +kernel
theorem d_Pages_fill_5 : decode prog_4_method_4_code 5 = .ok (.istore_n 3, 1) := by decide +kernel
theorem d_Pages_fill_6 : decode prog_4_method_4_code 6 = .ok (.aload_n 0, 1) := by decide +kernel
theorem d_Pages_fill_7 : decode prog_4_method_4_code 7 = .ok (.getfield 11, 3) := by decide +kernel
theorem d_Pages_fill_10 : decode prog_4_method_4_code 10 = .ok (.iload_n 3, 1) := by decide +kernel
theorem d_Pages_fill_11 : decode prog_4_method_4_code 11 = .ok (.iload_n 3, 1) := by decide +kernel
theorem d_Pages_fill_12 : decode prog_4_method_4_code 12 = .ok (.sipush 2560, 3) := by decide +kernel
theorem d_Pages_fill_15 : decode prog_4_method_4_code 15 = .ok (.iadd, 1) := by decide +kernel
theorem d_Pages_fill_16 : decode prog_4_method_4_code 16 = .ok (.iload_n 2, 1) := by decide +kernel
theorem d_Pages_fill_17 : decode prog_4_method_4_code 17 = .ok (.i2b, 1) := by decide +kernel
theorem d_Pages_fill_18 : decode prog_4_method_4_code 18 = .ok (.invokestatic 22, 3) := by decide +kernel
theorem d_Pages_fill_21 : decode prog_4_method_4_code 21 = .ok (.return_, 1) := by decide +kernel
theorem d_Pages_copy_0 : decode prog_4_method_5_code 0 = .ok (.aload_n 0, 1) := by decide +kernel
theorem d_Pages_copy_1 : decode prog_4_method_5_code 1 = .ok (.getfield 11, 3) := by decide +kernel
theorem d_Pages_copy_4 : decode prog_4_method_5_code 4 = .ok (.iload_n 2, 1) := by decide +kernel
theorem d_Pages_copy_5 : decode prog_4_method_5_code 5 = .ok (.sipush 2560, 3) := by decide +kernel
theorem d_Pages_copy_8 : decode prog_4_method_5_code 8 = .ok (.imul, 1) := by decide +kernel
theorem d_Pages_copy_9 : decode prog_4_method_5_code 9 = .ok (.aload_n 0, 1) := by decide +kernel
theorem d_Pages_copy_10 : decode prog_4_method_5_code 10 = .ok (.getfield 11, 3) := by decide +kernel
theorem d_Pages_copy_13 : decode prog_4_method_5_code 13 = .ok (.iload_n 1, 1) := by decide +kernel
theorem d_Pages_copy_14 : decode prog_4_method_5_code 14 = .ok (.sipush 2560, 3) := by decide +kernel
theorem d_Pages_copy_17 : decode prog_4_method_5_code 17 = .ok (.imul, 1) := by decide +kernel
theorem d_Pages_copy_18 : decode prog_4_method_5_code 18 = .ok (.sipush 2560, 3) := by decide +kernel
theorem d_Pages_copy_21 : decode prog_4_method_5_code 21 = .ok (.invokestatic 28, 3) := by decide +kernel
theorem d_Pages_copy_24 : decode prog_4_method_5_code 24 = .ok (.return_, 1) := by decide +kernel
theorem d_Pages_startOfRow_0 : decode prog_4_method_6_code 0 = .ok (.aload_n 0, 1) := by decide +kernel
theorem d_Pages_startOfRow_1 : decode prog_4_method_6_code 1 = .ok (.getfield 15, 3) := by decide +kernel
theorem d_Pages_startOfRow_4 : decode prog_4_method_6_code 4 = .ok (.sipush 2560, 3) := by decide +kernel
theorem d_Pages_startOfRow_7 : decode prog_4_method_6_code 7 = .ok (.imul, 1) := by decide +kernel
theorem d_Pages_startOfRow_8 : decode prog_4_method_6_code 8 = .ok (.iload_n 1, 1) := by decide +kernel
theorem d_Pages_startOfRow_9 : decode prog_4_method_6_code 9 = .ok (.bipush 64, 2) := by decide +kernel
theorem d_Pages_startOfRow_11 : decode prog_4_method_6_code 11 = .ok (.imul, 1) := by decide +kernel
theorem d_Pages_startOfRow_12 : decode prog_4_method_6_code 12 = .ok (.iadd, 1) := by decide +kernel
theorem d_Pages_startOfRow_13 : decode prog_4_method_6_code 13 = .ok (.ireturn, 1) := by decide +kernel
theorem d_Painter_forgetCounts_0 : decode prog_5_method_2_code 0 = .ok (.aload_n 0, 1) := by decide +kernel
theorem d_Painter_forgetCounts_1 : decode prog_5_method_2_code 1 = .ok (.iconst 0, 1) := by decide +kernel
theorem d_Painter_forgetCounts_2 : decode prog_5_method_2_code 2 = .ok (.putfield 39, 3) := by decide +kernel
theorem d_Painter_forgetCounts_5 : decode prog_5_method_2_code 5 = .ok (.aload_n 0, 1) := by decide +kernel
theorem d_Painter_forgetCounts_6 : decode prog_5_method_2_code 6 = .ok (.iconst 0, 1) := by decide +kernel
theorem d_Painter_forgetCounts_7 : decode prog_5_method_2_code 7 = .ok (.putfield 42, 3) := by decide +kernel
theorem d_Painter_forgetCounts_10 : decode prog_5_method_2_code 10 = .ok (.return_, 1) := by decide +kernel
theorem d_Painter_drawShape_0 : decode prog_5_method_3_code 0 = .ok (.aload_n 0, 1) := by decide +kernel
theorem d_Painter_drawShape_1 : decode prog_5_method_3_code 1 = .ok (.getfield 35, 3) := by decide +kernel
theorem d_Painter_drawShape_4 : decode prog_5_method_3_code 4 = .ok (.sipush 200, 3) := by decide +kernel
theorem d_Painter_drawShape_7 : decode prog_5_method_3_code 7 = .ok (.if_icmp .lt 4, 3) := by decide +kernel
theorem d_Painter_drawShape_10 : decode prog_5_method_3_code 10 = .ok (.return_, 1) := by decide +kernel
theorem d_Painter_drawShape_11 : decode prog_5_method_3_code 11 = .ok (.aload_n 0, 1) := by decide +kernel
theorem d_Painter_drawShape_12 : decode prog_5_method_3_code 12 = .ok (.dup, 1) := by decide +kernel
theorem d_Painter_drawShape_13 : decode prog_5_method_3_code 13 = .ok (.getfield 35, 3) := by decide +kernel
theorem d_Painter_drawShape_16 : decode prog_5_method_3_code 16 = .ok (.iconst 1, 1) := by decide +kernel
theorem d_Painter_drawShape_17 : decode prog_5_method_3_code 17 = .ok (.iadd, 1) := by decide +kernel
theorem d_Painter_drawShape_18 : decode prog_5_method_3_code 18 = .ok (.putfield 35, 3) := by decide +kernel
theorem d_Painter_drawShape_21 : decode prog_5_method_3_code 21 = .ok (.aload_n 0, 1) := by decide +kernel
theorem d_Painter_drawShape_22 : decode prog_5_method_3_code 22 = .ok (.dup, 1) := by decide +kernel
theorem d_Painter_drawShape_23 : decode prog_5_method_3_code 23 = .ok (.getfield 39, 3) := by decide +kernel
theorem d_Painter_drawShape_26 : decode prog_5_method_3_code 26 = .ok (.iconst 1, 1) := by decide +kernel
theorem d_Painter_drawShape_27 : decode prog_5_method_3_code 27 = .ok (.iadd, 1) := by decide +kernel
theorem d_Painter_drawShape_28 : decode prog_5_method_3_code 28 = .ok (.putfield 39, 3) := by decide +kernel
theorem d_Painter_drawShape_31 : decode prog_5_method_3_code 31 = .ok (.aload_n 0, 1) := by decide +kernel
theorem d_Painter_drawShape_32 : decode prog_5_method_3_code 32 = .ok (.getfield 12, 3) := by decide +kernel
theorem d_Painter_drawShape_35 : decode prog_5_method_3_code 35 = .ok (.iload_n 1, 1) := by decide +kernel
theorem d_Painter_drawShape_36 : decode prog_5_method_3_code 36 = .ok (.invokevirtual 45, 3) := by decide +kernel
theorem d_Painter_drawShape_39 : decode prog_5_method_3_code 39 = .ok (.istore 7, 2) := by decide +kernel
theorem d_Painter_drawShape_41 : decode prog_5_method_3_code 41 = .ok (.iload 7, 2) := by decide +kernel
theorem d_Painter_drawShape_43 : decode prog_5_method_3_code 43 = .ok (.sipush 192, 3) := by decide +kernel
theorem d_Painter_drawShape_46 : decode prog_5_method_3_code 46 = .ok (.if_icmp .lt 48, 3) := by decide +kernel
theorem d_Painter_drawShape_49 : decode prog_5_method_3_code 49 = .ok (.aload_n 0, 1) := by decide +kernel
theorem d_Painter_drawShape_50 : decode prog_5_method_3_code 50 = .ok (.iload_n 1, 1) := by decide +kernel
theorem d_Painter_drawShape_51 : decode prog_5_method_3_code 51 = .ok (.iload_n 2, 1) := by decide +kernel
theorem d_Painter_drawShape_52 : decode prog_5_method_3_code 52 = .ok (.iload_n 3, 1) := by decide +kernel
theorem d_Painter_drawShape_53 : decode prog_5_method_3_code 53 = .ok (.iload 4, 2) := by decide +kernel
theorem d_Painter_drawShape_55 : decode prog_5_method_3_code 55 = .ok (.invokevirtual 49, 3) := by decide +kernel
theorem d_Painter_drawShape_58 : decode prog_5_method_3_code 58 = .ok (.aload_n 0, 1) := by decide +kernel
theorem d_Painter_drawShape_59 : decode prog_5_method_3_code 59 = .ok (.aload_n 0, 1) := by decide +kernel
theorem d_Painter_drawShape_60 : decode prog_5_method_3_code 60 = .ok (.getfield 12, 3) := by decide +kernel
theorem d_Painter_drawShape_63 : decode prog_5_method_3_code 63 = .ok (.iload_n 1, 1) := by decide +kernel
theorem d_Painter_drawShape_64 : decode prog_5_method_3_code 64 = .ok (.iconst 3, 1) := by decide +kernel
theorem d_Painter_drawShape_65 : decode prog_5_method_3_code 65 = .ok (.iadd, 1) := by decide +kernel
theorem d_Painter_drawShape_66 : decode prog_5_method_3_code 66 = .ok (.invokevirtual 45, 3) := by decide +kernel
theorem d_Painter_drawShape_69 : decode prog_5_method_3_code 69 = .ok (.bipush 15, 2) := by decide +kernel
theorem d_Painter_drawShape_71 : decode prog_5_method_3_code 71 = .ok (.iand, 1) := by decide +kernel
theorem d_Painter_drawShape_72 : decode prog_5_method_3_code 72 = .ok (.iload 5, 2) := by decide +kernel
theorem d_Painter_drawShape_74 : decode prog_5_method_3_code 74 = .ok (.iconst (-1), 1) := by decide +kernel
theorem d_Painter_drawShape_75 : decode prog_5_method_3_code 75 = .ok (.if_icmp .ne 11, 3) := by decide +kernel
theorem d_Painter_drawShape_78 : decode prog_5_method_3_code 78 = .ok (.iload 7, 2) := by decide +kernel
theorem d_Painter_drawShape_80 : decode prog_5_method_3_code 80 = .ok (.bipush 15, 2) := by decide +kernel
theorem d_Painter_drawShape_82 : decode prog_5_method_3_code 82 = .ok (.iand, 1) := by decide +kernel
theorem d_Painter_drawShape_83 : decode prog_5_method_3_code 83 = .ok (.goto 5, 3) := by decide +kernel
theorem d_Painter_drawShape_86 : decode prog_5_method_3_code 86 = .ok (.iload 5, 2) := by decide +kernel
theorem d_Painter_drawShape_88 : decode prog_5_method_3_code 88 = .ok (.invokevirtual 53, 3) := by decide +kernel
theorem d_Painter_drawShape_91 : decode prog_5_method_3_code 91 = .ok (.goto 28, 3) := by decide +kernel
theorem d_Painter_drawShape_94 : decode prog_5_method_3_code 94 = .ok (.iload 7, 2) := by decide +kernel
theorem d_Painter_drawShape_96 : decode prog_5_method_3_code 96 = .ok (.iconst 2, 1) := by decide +kernel
theorem d_Painter_drawShape_97 : decode prog_5_method_3_code 97 = .ok (.if_icmp .ne 22, 3) := by decide +kernel
theorem d_Painter_drawShape_100 : decode prog_5_method_3_code 100 = .ok (.iload 6, 2) := by decide +kernel
theorem d_Painter_drawShape_102 : decode prog_5_method_3_code 102 = .ok (.iconst 4, 1) := by decide +kernel
theorem d_Painter_drawShape_103 : decode prog_5_method_3_code 103 = .ok (.if_icmp .gt 16, 3) := by decide +kernel
theorem d_Painter_drawShape_106 : decode prog_5_method_3_code 106 = .ok (.aload_n 0, 1) := by decide +kernel
theorem d_Painter_drawShape_107 : decode prog_5_method_3_code 107 = .ok (.iload_n 1, 1) := by decide +kernel
theorem d_Painter_drawShape_108 : decode prog_5_method_3_code 108 = .ok (.iload_n 2, 1) := by decide +kernel
theorem d_Painter_drawShape_109 : decode prog_5_method_3_code 109 = .ok (.iload_n 3, 1) := by decide +kernel
theorem d_Painter_drawShape_110 : decode prog_5_method_3_code 110 = .ok (.iload 4, 2) := by decide +kernel
theorem d_Painter_drawShape_112 : decode prog_5_method_3_code 112 = .ok (.iload 5, 2) := by decide +kernel
theorem d_Painter_drawShape_114 : decode prog_5_method_3_code 114 = .ok (.iload 6, 2) := by decide +kernel
theorem d_Painter_drawShape_116 : decode prog_5_method_3_code 116 = .ok (.invokevirtual 57, 3) := by decide +kernel
theorem d_Painter_drawShape_119 : decode prog_5_method_3_code 119 = .ok (.return_, 1) := by decide +kernel
theorem d_Painter_drawGroup_0 : decode prog_5_method_4_code 0 = .ok (.iload_n 2, 1) := by decide +kernel
theorem d_Painter_drawGroup_1 : decode prog_5_method_4_code 1 = .ok (.aload_n 0, 1) := by decide +kernel
theorem d_Painter_drawGroup_2 : decode prog_5_method_4_code 2 = .ok (.getfield 12, 3) := by decide +kernel
theorem d_Painter_drawGroup_5 : decode prog_5_method_4_code 5 = .ok (.iload_n 1, 1) := by decide +kernel
theorem d_Painter_drawGroup_6 : decode prog_5_method_4_code 6 = .ok (.iconst 1, 1) := by decide +kernel
theorem d_Painter_drawGroup_7 : decode prog_5_method_4_code 7 = .ok (.iadd, 1) := by decide +kernel
theorem d_Painter_drawGroup_8 : decode prog_5_method_4_code 8 = .ok (.invokevirtual 45, 3) := by decide +kernel
theorem d_Painter_drawGroup_11 : decode prog_5_method_4_code 11 = .ok (.iload 4, 2) := by decide +kernel
theorem d_Painter_drawGroup_13 : decode prog_5_method_4_code 13 = .ok (.invokestatic 61, 3) := by decide +kernel
theorem d_Painter_drawGroup_16 : decode prog_5_method_4_code 16 = .ok (.isub, 1) := by decide +kernel
theorem d_Painter_drawGroup_17 : decode prog_5_method_4_code 17 = .ok (.istore 7, 2) := by decide +kernel
theorem d_Painter_drawGroup_19 : decode prog_5_method_4_code 19 = .ok (.iload_n 3, 1) := by decide +kernel
theorem d_Painter_drawGroup_20 : decode prog_5_method_4_code 20 = .ok (.aload_n 0, 1) := by decide +kernel
theorem d_Painter_drawGroup_21 : decode prog_5_method_4_code 21 = .ok (.getfield 12, 3) := by decide +kernel
theorem d_Painter_drawGroup_24 : decode prog_5_method_4_code 24 = .ok (.iload_n 1, 1) := by decide +kernel
theorem d_Painter_drawGroup_25 : decode prog_5_method_4_code 25 = .ok (.iconst 2, 1) := by decide +kernel
theorem d_Painter_drawGroup_26 : decode prog_5_method_4_code 26 = .ok (.iadd, 1) := by decide +kernel
theorem d_Painter_drawGroup_27 : decode prog_5_method_4_code 27 = .ok (.invokevirtual 45, 3) := by decide +kernel
theorem d_Painter_drawGroup_30 : decode prog_5_method_4_code 30 = .ok (.iload 4, 2) := by decide +kernel
theorem d_Painter_drawGroup_32 : decode prog_5_method_4_code 32 = .ok (.invokestatic 61, 3) := by decide +kernel
theorem d_Painter_drawGroup_35 : decode prog_5_method_4_code 35 = .ok (.isub, 1) := by decide +kernel
theorem d_Painter_drawGroup_36 : decode prog_5_method_4_code 36 = .ok (.istore 8, 2) := by decide +kernel
theorem d_Painter_drawGroup_38 : decode prog_5_method_4_code 38 = .ok (.aload_n 0, 1) := by decide +kernel
theorem d_Painter_drawGroup_39 : decode prog_5_method_4_code 39 = .ok (.getfield 12, 3) := by decide +kernel
theorem d_Painter_drawGroup_42 : decode prog_5_method_4_code 42 = .ok (.iload_n 1, 1) := by decide +kernel
theorem d_Painter_drawGroup_43 : decode prog_5_method_4_code 43 = .ok (.iconst 3, 1) := by decide +kernel
theorem d_Painter_drawGroup_44 : decode prog_5_method_4_code 44 = .ok (.iadd, 1) := by decide +kernel
theorem d_Painter_drawGroup_45 : decode prog_5_method_4_code 45 = .ok (.invokevirtual 45, 3) := by decide +kernel
theorem d_Painter_drawGroup_48 : decode prog_5_method_4_code 48 = .ok (.bipush 15, 2) := by decide +kernel
theorem d_Painter_drawGroup_50 : decode prog_5_method_4_code 50 = .ok (.iand, 1) := by decide +kernel
theorem d_Painter_drawGroup_51 : decode prog_5_method_4_code 51 = .ok (.istore 9, 2) := by decide +kernel
theorem d_Painter_drawGroup_53 : decode prog_5_method_4_code 53 = .ok (.iload_n 1, 1) := by decide +kernel
theorem d_Painter_drawGroup_54 : decode prog_5_method_4_code 54 = .ok (.iconst 4, 1) := by decide +kernel
theorem d_Painter_drawGroup_55 : decode prog_5_method_4_code 55 = .ok (.iadd, 1) := by decide +kernel
theorem d_Painter_drawGroup_56 : decode prog_5_method_4_code 56 = .ok (.istore 10, 2) := by decide +kernel
theorem d_Painter_drawGroup_58 : decode prog_5_method_4_code 58 = .ok (.iconst 0, 1) := by decide +kernel
theorem d_Painter_drawGroup_59 : decode prog_5_method_4_code 59 = .ok (.istore 11, 2) := by decide +kernel
theorem d_Painter_drawGroup_61 : decode prog_5_method_4_code 61 = .ok (.iload 11, 2) := by decide +kernel
theorem d_Painter_drawGroup_63 : decode prog_5_method_4_code 63 = .ok (.iload 9, 2) := by decide +kernel
theorem d_Painter_drawGroup_65 : decode prog_5_method_4_code 65 = .ok (.if_icmp .ge 140, 3) := by decide +kernel
theorem d_Painter_drawGroup_68 : decode prog_5_method_4_code 68 = .ok (.aload_n 0, 1) := by decide +kernel
theorem d_Painter_drawGroup_69 : decode prog_5_method_4_code 69 = .ok (.getfield 12, 3) := by decide +kernel
theorem d_Painter_drawGroup_72 : decode prog_5_method_4_code 72 = .ok (.iload 10, 2) := by decide +kernel
theorem d_Painter_drawGroup_74 : decode prog_5_method_4_code 74 = .ok (.invokevirtual 65, 3) := by decide +kernel
theorem d_Painter_drawGroup_77 : decode prog_5_method_4_code 77 = .ok (.istore 12, 2) := by decide +kernel
theorem d_Painter_drawGroup_79 : decode prog_5_method_4_code 79 = .ok (.iload 7, 2) := by decide +kernel
theorem d_Painter_drawGroup_81 : decode prog_5_method_4_code 81 = .ok (.aload_n 0, 1) := by decide +kernel
theorem d_Painter_drawGroup_82 : decode prog_5_method_4_code 82 = .ok (.getfield 12, 3) := by decide +kernel
theorem d_Painter_drawGroup_85 : decode prog_5_method_4_code 85 = .ok (.iload 10, 2) := by decide +kernel
theorem d_Painter_drawGroup_87 : decode prog_5_method_4_code 87 = .ok (.iconst 2, 1) := by decide +kernel
theorem d_Painter_drawGroup_88 : decode prog_5_method_4_code 88 = .ok (.iadd, 1) := by decide +kernel
theorem d_Painter_drawGroup_89 : decode prog_5_method_4_code 89 = .ok (.invokevirtual 45, 3) := by decide +kernel
theorem d_Painter_drawGroup_92 : decode prog_5_method_4_code 92 = .ok (.iload 4, 2) := by decide +kernel
theorem d_Painter_drawGroup_94 : decode prog_5_method_4_code 94 = .ok (.invokestatic 61, 3) := by decide +kernel
theorem d_Painter_drawGroup_97 : decode prog_5_method_4_code 97 = .ok (.iadd, 1) := by decide +kernel
theorem d_Painter_drawGroup_98 : decode prog_5_method_4_code 98 = .ok (.istore 13, 2) := by decide +kernel
theorem d_Painter_drawGroup_100 : decode prog_5_method_4_code 100 = .ok (.iload 8, 2) := by decide +kernel
theorem d_Painter_drawGroup_102 : decode prog_5_method_4_code 102 = .ok (.aload_n 0, 1) := by decide +kernel
theorem d_Painter_drawGroup_103 : decode prog_5_method_4_code 103 = .ok (.getfield 12, 3) := by decide +kernel
theorem d_Painter_drawGroup_106 : decode prog_5_method_4_code 106 = .ok (.iload 10, 2) := by decide +kernel
theorem d_Painter_drawGroup_108 : decode prog_5_method_4_code 108 = .ok (.iconst 3, 1) := by decide +kernel
theorem d_Painter_drawGroup_109 : decode prog_5_method_4_code 109 = .ok (.iadd, 1) := by decide +kernel
theorem d_Painter_drawGroup_110 : decode prog_5_method_4_code 110 = .ok (.invokevirtual 45, 3) := by decide +kernel
theorem d_Painter_drawGroup_113 : decode prog_5_method_4_code 113 = .ok (.iload 4, 2) := by decide +kernel
theorem d_Painter_drawGroup_115 : decode prog_5_method_4_code 115 = .ok (.invokestatic 61, 3) := by decide +kernel
theorem d_Painter_drawGroup_118 : decode prog_5_method_4_code 118 = .ok (.iadd, 1) := by decide +kernel
theorem d_Painter_drawGroup_119 : decode prog_5_method_4_code 119 = .ok (.istore 14, 2) := by decide +kernel
theorem d_Painter_drawGroup_121 : decode prog_5_method_4_code 121 = .ok (.iload 12, 2) := by decide +kernel
theorem d_Painter_drawGroup_123 : decode prog_5_method_4_code 123 = .ok (.ldc 68, 2) := by decide +kernel
theorem d_Painter_drawGroup_125 : decode prog_5_method_4_code 125 = .ok (.iand, 1) := by decide +kernel
theorem d_Painter_drawGroup_126 : decode prog_5_method_4_code 126 = .ok (.ifCond .eq 7, 3) := by decide +kernel
theorem d_Painter_drawGroup_129 : decode prog_5_method_4_code 129 = .ok (.iconst 1, 1) := by decide +kernel
theorem d_Painter_drawGroup_130 : decode prog_5_method_4_code 130 = .ok (.goto 4, 3) := by decide +kernel
theorem d_Painter_drawGroup_133 : decode prog_5_method_4_code 133 = .ok (.iconst 0, 1) := by decide +kernel
theorem d_Painter_drawGroup_134 : decode prog_5_method_4_code 134 = .ok (.istore 15, 2) := by decide +kernel
theorem d_Painter_drawGroup_136 : decode prog_5_method_4_code 136 = .ok (.iload 15, 2) := by decide +kernel
theorem d_Painter_drawGroup_138 : decode prog_5_method_4_code 138 = .ok (.ifCond .eq 20, 3) := by decide +kernel
theorem d_Painter_drawGroup_141 : decode prog_5_method_4_code 141 = .ok (.aload_n 0, 1) := by decide +kernel
theorem d_Painter_drawGroup_142 : decode prog_5_method_4_code 142 = .ok (.getfield 12, 3) := by decide +kernel
theorem d_Painter_drawGroup_145 : decode prog_5_method_4_code 145 = .ok (.iload 10, 2) := by decide +kernel
theorem d_Painter_drawGroup_147 : decode prog_5_method_4_code 147 = .ok (.iconst 4, 1) := by decide +kernel
theorem d_Painter_drawGroup_148 : decode prog_5_method_4_code 148 = .ok (.iadd, 1) := by decide +kernel
theorem d_Painter_drawGroup_149 : decode prog_5_method_4_code 149 = .ok (.invokevirtual 45, 3) := by decide +kernel
theorem d_Painter_drawGroup_152 : decode prog_5_method_4_code 152 = .ok (.bipush 15, 2) := by decide +kernel
theorem d_Painter_drawGroup_154 : decode prog_5_method_4_code 154 = .ok (.iand, 1) := by decide +kernel
theorem d_Painter_drawGroup_155 : decode prog_5_method_4_code 155 = .ok (.goto 5, 3) := by decide +kernel
theorem d_Painter_drawGroup_158 : decode prog_5_method_4_code 158 = .ok (.iload 5, 2) := by decide +kernel
theorem d_Painter_drawGroup_160 : decode prog_5_method_4_code 160 = .ok (.istore 16, 2) := by decide +kernel
theorem d_Painter_drawGroup_162 : decode prog_5_method_4_code 162 = .ok (.aload_n 0, 1) := by decide +kernel
theorem d_Painter_drawGroup_163 : decode prog_5_method_4_code 163 = .ok (.iload 12, 2) := by decide +kernel
theorem d_Painter_drawGroup_165 : decode prog_5_method_4_code 165 = .ok (.sipush 1023, 3) := by decide +kernel
theorem d_Painter_drawGroup_168 : decode prog_5_method_4_code 168 = .ok (.iand, 1) := by decide +kernel
theorem d_Painter_drawGroup_169 : decode prog_5_method_4_code 169 = .ok (.iload 13, 2) := by decide +kernel
theorem d_Painter_drawGroup_171 : decode prog_5_method_4_code 171 = .ok (.iload 14, 2) := by decide +kernel
theorem d_Painter_drawGroup_173 : decode prog_5_method_4_code 173 = .ok (.iload 4, 2) := by decide +kernel
theorem d_Painter_drawGroup_175 : decode prog_5_method_4_code 175 = .ok (.iload 16, 2) := by decide +kernel
theorem d_Painter_drawGroup_177 : decode prog_5_method_4_code 177 = .ok (.iload 6, 2) := by decide +kernel
theorem d_Painter_drawGroup_179 : decode prog_5_method_4_code 179 = .ok (.iconst 1, 1) := by decide +kernel
theorem d_Painter_drawGroup_180 : decode prog_5_method_4_code 180 = .ok (.iadd, 1) := by decide +kernel
theorem d_Painter_drawGroup_181 : decode prog_5_method_4_code 181 = .ok (.invokevirtual 69, 3) := by decide +kernel
theorem d_Painter_drawGroup_184 : decode prog_5_method_4_code 184 = .ok (.iload 10, 2) := by decide +kernel
theorem d_Painter_drawGroup_186 : decode prog_5_method_4_code 186 = .ok (.iload 15, 2) := by decide +kernel
theorem d_Painter_drawGroup_188 : decode prog_5_method_4_code 188 = .ok (.ifCond .eq 7, 3) := by decide +kernel
theorem d_Painter_drawGroup_191 : decode prog_5_method_4_code 191 = .ok (.iconst 5, 1) := by decide +kernel
theorem d_Painter_drawGroup_192 : decode prog_5_method_4_code 192 = .ok (.goto 4, 3) := by decide +kernel
theorem d_Painter_drawGroup_195 : decode prog_5_method_4_code 195 = .ok (.iconst 4, 1) := by decide +kernel
theorem d_Painter_drawGroup_196 : decode prog_5_method_4_code 196 = .ok (.iadd, 1) := by decide +kernel
theorem d_Painter_drawGroup_197 : decode prog_5_method_4_code 197 = .ok (.istore 10, 2) := by decide +kernel
theorem d_Painter_drawGroup_199 : decode prog_5_method_4_code 199 = .ok (.iinc 11 1, 3) := by decide +kernel
theorem d_Painter_drawGroup_202 : decode prog_5_method_4_code 202 = .ok (.goto (-141), 3) := by decide +kernel
theorem d_Painter_drawGroup_205 : decode prog_5_method_4_code 205 = .ok (.return_, 1) := by decide +kernel
theorem d_Painter_placePairs_0 : decode prog_5_method_5_code 0 = .ok (.iload_n 2, 1) := by decide +kernel
theorem d_Painter_placePairs_1 : decode prog_5_method_5_code 1 = .ok (.aload_n 0, 1) := by decide +kernel
theorem d_Painter_placePairs_2 : decode prog_5_method_5_code 2 = .ok (.getfield 12, 3) := by decide +kernel
theorem d_Painter_placePairs_5 : decode prog_5_method_5_code 5 = .ok (.iload_n 1, 1) := by decide +kernel
theorem d_Painter_placePairs_6 : decode prog_5_method_5_code 6 = .ok (.iconst 1, 1) := by decide +kernel
theorem d_Painter_placePairs_7 : decode prog_5_method_5_code 7 = .ok (.iadd, 1) := by decide +kernel
theorem d_Painter_placePairs_8 : decode prog_5_method_5_code 8 = .ok (.invokevirtual 45, 3) := by decide +kernel
theorem d_Painter_placePairs_11 : decode prog_5_method_5_code 11 = .ok (.iload 4, 2) := by decide +kernel
theorem d_Painter_placePairs_13 : decode prog_5_method_5_code 13 = .ok (.invokestatic 61, 3) := by decide +kernel
theorem d_Painter_placePairs_16 : decode prog_5_method_5_code 16 = .ok (.iconst 2, 1) := by decide +kernel
theorem d_Painter_placePairs_17 : decode prog_5_method_5_code 17 = .ok (.invokestatic 72, 3) := by decide +kernel
theorem d_Painter_placePairs_20 : decode prog_5_method_5_code 20 = .ok (.isub, 1) := by decide +kernel
theorem d_Painter_placePairs_21 : decode prog_5_method_5_code 21 = .ok (.istore 5, 2) := by decide +kernel
theorem d_Painter_placePairs_23 : decode prog_5_method_5_code 23 = .ok (.iload_n 3, 1) := by decide +kernel
theorem d_Painter_placePairs_24 : decode prog_5_method_5_code 24 = .ok (.aload_n 0, 1) := by decide +kernel
theorem d_Painter_placePairs_25 : decode prog_5_method_5_code 25 = .ok (.getfield 12, 3) := by decide +kernel
theorem d_Painter_placePairs_28 : decode prog_5_method_5_code 28 = .ok (.iload_n 1, 1) := by decide +kernel
theorem d_Painter_placePairs_29 : decode prog_5_method_5_code 29 = .ok (.iconst 2, 1) := by decide +kernel
theorem d_Painter_placePairs_30 : decode prog_5_method_5_code 30 = .ok (.iadd, 1) := by decide +kernel
theorem d_Painter_placePairs_31 : decode prog_5_method_5_code 31 = .ok (.invokevirtual 45, 3) := by decide +kernel
theorem d_Painter_placePairs_34 : decode prog_5_method_5_code 34 = .ok (.iload 4, 2) := by decide +kernel
theorem d_Painter_placePairs_36 : decode prog_5_method_5_code 36 = .ok (.invokestatic 61, 3) := by decide +kernel
theorem d_Painter_placePairs_39 : decode prog_5_method_5_code 39 = .ok (.iconst 2, 1) := by decide +kernel
theorem d_Painter_placePairs_40 : decode prog_5_method_5_code 40 = .ok (.invokestatic 72, 3) := by decide +kernel
theorem d_Painter_placePairs_43 : decode prog_5_method_5_code 43 = .ok (.isub, 1) := by decide +kernel
theorem d_Painter_placePairs_44 : decode prog_5_method_5_code 44 = .ok (.istore 6, 2) := by decide +kernel
theorem d_Painter_placePairs_46 : decode prog_5_method_5_code 46 = .ok (.aload_n 0, 1) := by decide +kernel
theorem d_Painter_placePairs_47 : decode prog_5_method_5_code 47 = .ok (.getfield 12, 3) := by decide +kernel
theorem d_Painter_placePairs_50 : decode prog_5_method_5_code 50 = .ok (.iload_n 1, 1) := by decide +kernel
theorem d_Painter_placePairs_51 : decode prog_5_method_5_code 51 = .ok (.iconst 3, 1) := by decide +kernel
theorem d_Painter_placePairs_52 : decode prog_5_method_5_code 52 = .ok (.iadd, 1) := by decide +kernel
theorem d_Painter_placePairs_53 : decode prog_5_method_5_code 53 = .ok (.invokevirtual 45, 3) := by decide +kernel
theorem d_Painter_placePairs_56 : decode prog_5_method_5_code 56 = .ok (.bipush 15, 2) := by decide +kernel
theorem d_Painter_placePairs_58 : decode prog_5_method_5_code 58 = .ok (.iand, 1) := by decide +kernel
theorem d_Painter_placePairs_59 : decode prog_5_method_5_code 59 = .ok (.istore 7, 2) := by decide +kernel
theorem d_Painter_placePairs_61 : decode prog_5_method_5_code 61 = .ok (.iload_n 1, 1) := by decide +kernel
theorem d_Painter_placePairs_62 : decode prog_5_method_5_code 62 = .ok (.iconst 4, 1) := by decide +kernel
theorem d_Painter_placePairs_63 : decode prog_5_method_5_code 63 = .ok (.iadd, 1) := by decide +kernel
theorem d_Painter_placePairs_64 : decode prog_5_method_5_code 64 = .ok (.istore 8, 2) := by decide +kernel
theorem d_Painter_placePairs_66 : decode prog_5_method_5_code 66 = .ok (.iconst 0, 1) := by decide +kernel
theorem d_Painter_placePairs_67 : decode prog_5_method_5_code 67 = .ok (.istore 9, 2) := by decide +kernel
theorem d_Painter_placePairs_69 : decode prog_5_method_5_code 69 = .ok (.iload 9, 2) := by decide +kernel
theorem d_Painter_placePairs_71 : decode prog_5_method_5_code 71 = .ok (.iload 7, 2) := by decide +kernel
theorem d_Painter_placePairs_73 : decode prog_5_method_5_code 73 = .ok (.if_icmp .ge 101, 3) := by decide +kernel
theorem d_Painter_placePairs_76 : decode prog_5_method_5_code 76 = .ok (.aload_n 0, 1) := by decide +kernel
theorem d_Painter_placePairs_77 : decode prog_5_method_5_code 77 = .ok (.getfield 25, 3) := by decide +kernel
theorem d_Painter_placePairs_80 : decode prog_5_method_5_code 80 = .ok (.iload 9, 2) := by decide +kernel
theorem d_Painter_placePairs_82 : decode prog_5_method_5_code 82 = .ok (.iload 5, 2) := by decide +kernel
theorem d_Painter_placePairs_84 : decode prog_5_method_5_code 84 = .ok (.aload_n 0, 1) := by decide +kernel
theorem d_Painter_placePairs_85 : decode prog_5_method_5_code 85 = .ok (.getfield 12, 3) := by decide +kernel
theorem d_Painter_placePairs_88 : decode prog_5_method_5_code 88 = .ok (.iload 8, 2) := by decide +kernel
theorem d_Painter_placePairs_90 : decode prog_5_method_5_code 90 = .ok (.iconst 2, 1) := by decide +kernel
theorem d_Painter_placePairs_91 : decode prog_5_method_5_code 91 = .ok (.iload 9, 2) := by decide +kernel
theorem d_Painter_placePairs_93 : decode prog_5_method_5_code 93 = .ok (.imul, 1) := by decide +kernel
theorem d_Painter_placePairs_94 : decode prog_5_method_5_code 94 = .ok (.iadd, 1) := by decide +kernel
theorem d_Painter_placePairs_95 : decode prog_5_method_5_code 95 = .ok (.invokevirtual 45, 3) := by decide +kernel
theorem d_Painter_placePairs_98 : decode prog_5_method_5_code 98 = .ok (.iload 4, 2) := by decide +kernel
theorem d_Painter_placePairs_100 : decode prog_5_method_5_code 100 = .ok (.invokestatic 61, 3) := by decide +kernel
theorem d_Painter_placePairs_103 : decode prog_5_method_5_code 103 = .ok (.iadd, 1) := by decide +kernel
theorem d_Painter_placePairs_104 : decode prog_5_method_5_code 104 = .ok (.iastore, 1) := by decide +kernel
theorem d_Painter_placePairs_105 : decode prog_5_method_5_code 105 = .ok (.aload_n 0, 1) := by decide +kernel
theorem d_Painter_placePairs_106 : decode prog_5_method_5_code 106 = .ok (.getfield 32, 3) := by decide +kernel
theorem d_Painter_placePairs_109 : decode prog_5_method_5_code 109 = .ok (.iload 9, 2) := by decide +kernel
theorem d_Painter_placePairs_111 : decode prog_5_method_5_code 111 = .ok (.iload 6, 2) := by decide +kernel
theorem d_Painter_placePairs_113 : decode prog_5_method_5_code 113 = .ok (.aload_n 0, 1) := by decide +kernel
theorem d_Painter_placePairs_114 : decode prog_5_method_5_code 114 = .ok (.getfield 12, 3) := by decide +kernel
theorem d_Painter_placePairs_117 : decode prog_5_method_5_code 117 = .ok (.iload 8, 2) := by decide +kernel
theorem d_Painter_placePairs_119 : decode prog_5_method_5_code 119 = .ok (.iconst 2, 1) := by decide +kernel
theorem d_Painter_placePairs_120 : decode prog_5_method_5_code 120 = .ok (.iload 9, 2) := by decide +kernel
theorem d_Painter_placePairs_122 : decode prog_5_method_5_code 122 = .ok (.imul, 1) := by decide +kernel
theorem d_Painter_placePairs_123 : decode prog_5_method_5_code 123 = .ok (.iadd, 1) := by decide +kernel
theorem d_Painter_placePairs_124 : decode prog_5_method_5_code 124 = .ok (.iconst 1, 1) := by decide +kernel
theorem d_Painter_placePairs_125 : decode prog_5_method_5_code 125 = .ok (.iadd, 1) := by decide +kernel
theorem d_Painter_placePairs_126 : decode prog_5_method_5_code 126 = .ok (.invokevirtual 45, 3) := by decide +kernel
theorem d_Painter_placePairs_129 : decode prog_5_method_5_code 129 = .ok (.iload 4, 2) := by decide +kernel
theorem d_Painter_placePairs_131 : decode prog_5_method_5_code 131 = .ok (.invokestatic 61, 3) := by decide +kernel
theorem d_Painter_placePairs_134 : decode prog_5_method_5_code 134 = .ok (.iadd, 1) := by decide +kernel
theorem d_Painter_placePairs_135 : decode prog_5_method_5_code 135 = .ok (.iastore, 1) := by decide +kernel
theorem d_Painter_placePairs_136 : decode prog_5_method_5_code 136 = .ok (.aload_n 0, 1) := by decide +kernel
theorem d_Painter_placePairs_137 : decode prog_5_method_5_code 137 = .ok (.getfield 29, 3) := by decide +kernel
theorem d_Painter_placePairs_140 : decode prog_5_method_5_code 140 = .ok (.iload 9, 2) := by decide +kernel
theorem d_Painter_placePairs_142 : decode prog_5_method_5_code 142 = .ok (.iload 5, 2) := by decide +kernel
theorem d_Painter_placePairs_144 : decode prog_5_method_5_code 144 = .ok (.aload_n 0, 1) := by decide +kernel
theorem d_Painter_placePairs_145 : decode prog_5_method_5_code 145 = .ok (.getfield 12, 3) := by decide +kernel
theorem d_Painter_placePairs_148 : decode prog_5_method_5_code 148 = .ok (.iload 8, 2) := by decide +kernel
theorem d_Painter_placePairs_150 : decode prog_5_method_5_code 150 = .ok (.iconst 2, 1) := by decide +kernel
theorem d_Painter_placePairs_151 : decode prog_5_method_5_code 151 = .ok (.iload 7, 2) := by decide +kernel
theorem d_Painter_placePairs_153 : decode prog_5_method_5_code 153 = .ok (.imul, 1) := by decide +kernel
theorem d_Painter_placePairs_154 : decode prog_5_method_5_code 154 = .ok (.iadd, 1) := by decide +kernel
theorem d_Painter_placePairs_155 : decode prog_5_method_5_code 155 = .ok (.iload 9, 2) := by decide +kernel
theorem d_Painter_placePairs_157 : decode prog_5_method_5_code 157 = .ok (.iadd, 1) := by decide +kernel
theorem d_Painter_placePairs_158 : decode prog_5_method_5_code 158 = .ok (.invokevirtual 45, 3) := by decide +kernel
theorem d_Painter_placePairs_161 : decode prog_5_method_5_code 161 = .ok (.iload 4, 2) := by decide +kernel
theorem d_Painter_placePairs_163 : decode prog_5_method_5_code 163 = .ok (.invokestatic 61, 3) := by decide +kernel
theorem d_Painter_placePairs_166 : decode prog_5_method_5_code 166 = .ok (.iadd, 1) := by decide +kernel
theorem d_Painter_placePairs_167 : decode prog_5_method_5_code 167 = .ok (.iastore, 1) := by decide +kernel
theorem d_Painter_placePairs_168 : decode prog_5_method_5_code 168 = .ok (.iinc 9 1, 3) := by decide +kernel
theorem d_Painter_placePairs_171 : decode prog_5_method_5_code 171 = .ok (.goto (-102), 3) := by decide +kernel
theorem d_Painter_placePairs_174 : decode prog_5_method_5_code 174 = .ok (.return_, 1) := by decide +kernel
theorem d_Painter_drawPolygon_0 : decode prog_5_method_6_code 0 = .ok (.iconst 0, 1) := by decide +kernel
theorem d_Painter_drawPolygon_1 : decode prog_5_method_6_code 1 = .ok (.istore_n 3, 1) := by decide +kernel
theorem d_Painter_drawPolygon_2 : decode prog_5_method_6_code 2 = .ok (.iload_n 3, 1) := by decide +kernel
theorem d_Painter_drawPolygon_3 : decode prog_5_method_6_code 3 = .ok (.iconst 1, 1) := by decide +kernel
theorem d_Painter_drawPolygon_4 : decode prog_5_method_6_code 4 = .ok (.iadd, 1) := by decide +kernel
theorem d_Painter_drawPolygon_5 : decode prog_5_method_6_code 5 = .ok (.iload_n 1, 1) := by decide +kernel
theorem d_Painter_drawPolygon_6 : decode prog_5_method_6_code 6 = .ok (.if_icmp .ge 39, 3) := by decide +kernel
theorem d_Painter_drawPolygon_9 : decode prog_5_method_6_code 9 = .ok (.aload_n 0, 1) := by decide +kernel
theorem d_Painter_drawPolygon_10 : decode prog_5_method_6_code 10 = .ok (.getfield 32, 3) := by decide +kernel
theorem d_Painter_drawPolygon_13 : decode prog_5_method_6_code 13 = .ok (.iload_n 3, 1) := by decide +kernel
theorem d_Painter_drawPolygon_14 : decode prog_5_method_6_code 14 = .ok (.iconst 1, 1) := by decide +kernel
theorem d_Painter_drawPolygon_15 : decode prog_5_method_6_code 15 = .ok (.iadd, 1) := by decide +kernel
theorem d_Painter_drawPolygon_16 : decode prog_5_method_6_code 16 = .ok (.iaload, 1) := by decide +kernel
theorem d_Painter_drawPolygon_17 : decode prog_5_method_6_code 17 = .ok (.aload_n 0, 1) := by decide +kernel
theorem d_Painter_drawPolygon_18 : decode prog_5_method_6_code 18 = .ok (.getfield 32, 3) := by decide +kernel
theorem d_Painter_drawPolygon_21 : decode prog_5_method_6_code 21 = .ok (.iload_n 3, 1) := by decide +kernel
theorem d_Painter_drawPolygon_22 : decode prog_5_method_6_code 22 = .ok (.iaload, 1) := by decide +kernel
theorem d_Painter_drawPolygon_23 : decode prog_5_method_6_code 23 = .ok (.isub, 1) := by decide +kernel
theorem d_Painter_drawPolygon_24 : decode prog_5_method_6_code 24 = .ok (.istore 4, 2) := by decide +kernel
theorem d_Painter_drawPolygon_26 : decode prog_5_method_6_code 26 = .ok (.iload 4, 2) := by decide +kernel
theorem d_Painter_drawPolygon_28 : decode prog_5_method_6_code 28 = .ok (.ifCond .le 11, 3) := by decide +kernel
theorem d_Painter_drawPolygon_31 : decode prog_5_method_6_code 31 = .ok (.aload_n 0, 1) := by decide +kernel
theorem d_Painter_drawPolygon_32 : decode prog_5_method_6_code 32 = .ok (.iload_n 3, 1) := by decide +kernel
theorem d_Painter_drawPolygon_33 : decode prog_5_method_6_code 33 = .ok (.iload 4, 2) := by decide +kernel
theorem d_Painter_drawPolygon_35 : decode prog_5_method_6_code 35 = .ok (.iload_n 2, 1) := by decide +kernel
theorem d_Painter_drawPolygon_36 : decode prog_5_method_6_code 36 = .ok (.invokevirtual 77, 3) := by decide +kernel
theorem d_Painter_drawPolygon_39 : decode prog_5_method_6_code 39 = .ok (.iinc 3 1, 3) := by decide +kernel
theorem d_Painter_drawPolygon_42 : decode prog_5_method_6_code 42 = .ok (.goto (-40), 3) := by decide +kernel
theorem d_Painter_drawPolygon_45 : decode prog_5_method_6_code 45 = .ok (.return_, 1) := by decide +kernel
theorem d_Painter_drawRows_0 : decode prog_5_method_7_code 0 = .ok (.aload_n 0, 1) := by decide +kernel
theorem d_Painter_drawRows_1 : decode prog_5_method_7_code 1 = .ok (.getfield 32, 3) := by decide +kernel
theorem d_Painter_drawRows_4 : decode prog_5_method_7_code 4 = .ok (.iload_n 1, 1) := by decide +kernel
theorem d_Painter_drawRows_5 : decode prog_5_method_7_code 5 = .ok (.iaload, 1) := by decide +kernel
theorem d_Painter_drawRows_6 : decode prog_5_method_7_code 6 = .ok (.istore 4, 2) := by decide +kernel
theorem d_Painter_drawRows_8 : decode prog_5_method_7_code 8 = .ok (.ldc2_w 81, 3) := by decide +kernel
theorem d_Painter_drawRows_11 : decode prog_5_method_7_code 11 = .ok (.aload_n 0, 1) := by decide +kernel
theorem d_Painter_drawRows_12 : decode prog_5_method_7_code 12 = .ok (.getfield 29, 3) := by decide +kernel
theorem d_Painter_drawRows_15 : decode prog_5_method_7_code 15 = .ok (.iload_n 1, 1) := by decide +kernel
theorem d_Painter_drawRows_16 : decode prog_5_method_7_code 16 = .ok (.iconst 1, 1) := by decide +kernel
theorem d_Painter_drawRows_17 : decode prog_5_method_7_code 17 = .ok (.iadd, 1) := by decide +kernel
theorem d_Painter_drawRows_18 : decode prog_5_method_7_code 18 = .ok (.iaload, 1) := by decide +kernel
theorem d_Painter_drawRows_19 : decode prog_5_method_7_code 19 = .ok (.aload_n 0, 1) := by decide +kernel
theorem d_Painter_drawRows_20 : decode prog_5_method_7_code 20 = .ok (.getfield 29, 3) := by decide +kernel
theorem d_Painter_drawRows_23 : decode prog_5_method_7_code 23 = .ok (.iload_n 1, 1) := by decide +kernel
theorem d_Painter_drawRows_24 : decode prog_5_method_7_code 24 = .ok (.iaload, 1) := by decide +kernel
theorem d_Painter_drawRows_25 : decode prog_5_method_7_code 25 = .ok (.isub, 1) := by decide +kernel
theorem d_Painter_drawRows_26 : decode prog_5_method_7_code 26 = .ok (.i2l, 1) := by decide +kernel
theorem d_Painter_drawRows_27 : decode prog_5_method_7_code 27 = .ok (.lmul, 1) := by decide +kernel
theorem d_Painter_drawRows_28 : decode prog_5_method_7_code 28 = .ok (.iload_n 2, 1) := by decide +kernel
theorem d_Painter_drawRows_29 : decode prog_5_method_7_code 29 = .ok (.i2l, 1) := by decide +kernel
theorem d_Painter_drawRows_30 : decode prog_5_method_7_code 30 = .ok (.invokestatic 83, 3) := by decide +kernel
theorem d_Painter_drawRows_33 : decode prog_5_method_7_code 33 = .ok (.lstore 5, 2) := by decide +kernel
theorem d_Painter_drawRows_35 : decode prog_5_method_7_code 35 = .ok (.ldc2_w 81, 3) := by decide +kernel
theorem d_Painter_drawRows_38 : decode prog_5_method_7_code 38 = .ok (.aload_n 0, 1) := by decide +kernel
theorem d_Painter_drawRows_39 : decode prog_5_method_7_code 39 = .ok (.getfield 25, 3) := by decide +kernel
theorem d_Painter_drawRows_42 : decode prog_5_method_7_code 42 = .ok (.iload_n 1, 1) := by decide +kernel
theorem d_Painter_drawRows_43 : decode prog_5_method_7_code 43 = .ok (.iconst 1, 1) := by decide +kernel
theorem d_Painter_drawRows_44 : decode prog_5_method_7_code 44 = .ok (.iadd, 1) := by decide +kernel
theorem d_Painter_drawRows_45 : decode prog_5_method_7_code 45 = .ok (.iaload, 1) := by decide +kernel
theorem d_Painter_drawRows_46 : decode prog_5_method_7_code 46 = .ok (.aload_n 0, 1) := by decide +kernel
theorem d_Painter_drawRows_47 : decode prog_5_method_7_code 47 = .ok (.getfield 25, 3) := by decide +kernel
theorem d_Painter_drawRows_50 : decode prog_5_method_7_code 50 = .ok (.iload_n 1, 1) := by decide +kernel
theorem d_Painter_drawRows_51 : decode prog_5_method_7_code 51 = .ok (.iaload, 1) := by decide +kernel
theorem d_Painter_drawRows_52 : decode prog_5_method_7_code 52 = .ok (.isub, 1) := by decide +kernel
theorem d_Painter_drawRows_53 : decode prog_5_method_7_code 53 = .ok (.i2l, 1) := by decide +kernel
theorem d_Painter_drawRows_54 : decode prog_5_method_7_code 54 = .ok (.lmul, 1) := by decide +kernel
theorem d_Painter_drawRows_55 : decode prog_5_method_7_code 55 = .ok (.iload_n 2, 1) := by decide +kernel
theorem d_Painter_drawRows_56 : decode prog_5_method_7_code 56 = .ok (.i2l, 1) := by decide +kernel
theorem d_Painter_drawRows_57 : decode prog_5_method_7_code 57 = .ok (.invokestatic 83, 3) := by decide +kernel
theorem d_Painter_drawRows_60 : decode prog_5_method_7_code 60 = .ok (.lstore 7, 2) := by decide +kernel
theorem d_Painter_drawRows_62 : decode prog_5_method_7_code 62 = .ok (.iconst 0, 1) := by decide +kernel
theorem d_Painter_drawRows_63 : decode prog_5_method_7_code 63 = .ok (.iload 4, 2) := by decide +kernel
theorem d_Painter_drawRows_65 : decode prog_5_method_7_code 65 = .ok (.ineg, 1) := by decide +kernel
theorem d_Painter_drawRows_66 : decode prog_5_method_7_code 66 = .ok (.invokestatic 86, 3) := by decide +kernel
theorem d_Painter_drawRows_69 : decode prog_5_method_7_code 69 = .ok (.istore 9, 2) := by decide +kernel
theorem d_Painter_drawRows_71 : decode prog_5_method_7_code 71 = .ok (.iload_n 2, 1) := by decide +kernel
theorem d_Painter_drawRows_72 : decode prog_5_method_7_code 72 = .ok (.bipush 40, 2) := by decide +kernel
theorem d_Painter_drawRows_74 : decode prog_5_method_7_code 74 = .ok (.iload 4, 2) := by decide +kernel
theorem d_Painter_drawRows_76 : decode prog_5_method_7_code 76 = .ok (.isub, 1) := by decide +kernel
theorem d_Painter_drawRows_77 : decode prog_5_method_7_code 77 = .ok (.invokestatic 89, 3) := by decide +kernel
theorem d_Painter_drawRows_80 : decode prog_5_method_7_code 80 = .ok (.istore 10, 2) := by decide +kernel
theorem d_Painter_drawRows_82 : decode prog_5_method_7_code 82 = .ok (.iload 9, 2) := by decide +kernel
theorem d_Painter_drawRows_84 : decode prog_5_method_7_code 84 = .ok (.istore 11, 2) := by decide +kernel
theorem d_Painter_drawRows_86 : decode prog_5_method_7_code 86 = .ok (.iload 11, 2) := by decide +kernel
theorem d_Painter_drawRows_88 : decode prog_5_method_7_code 88 = .ok (.iload 10, 2) := by decide +kernel
theorem d_Painter_drawRows_90 : decode prog_5_method_7_code 90 = .ok (.if_icmp .ge 103, 3) := by decide +kernel
theorem d_Painter_drawRows_93 : decode prog_5_method_7_code 93 = .ok (.aload_n 0, 1) := by decide +kernel
theorem d_Painter_drawRows_94 : decode prog_5_method_7_code 94 = .ok (.getfield 29, 3) := by decide +kernel
theorem d_Painter_drawRows_97 : decode prog_5_method_7_code 97 = .ok (.iload_n 1, 1) := by decide +kernel
theorem d_Painter_drawRows_98 : decode prog_5_method_7_code 98 = .ok (.iaload, 1) := by decide +kernel
theorem d_Painter_drawRows_99 : decode prog_5_method_7_code 99 = .ok (.lload 5, 2) := by decide +kernel
theorem d_Painter_drawRows_101 : decode prog_5_method_7_code 101 = .ok (.iload 11, 2) := by decide +kernel
theorem d_Painter_drawRows_103 : decode prog_5_method_7_code 103 = .ok (.invokestatic 92, 3) := by decide +kernel
theorem d_Painter_drawRows_106 : decode prog_5_method_7_code 106 = .ok (.iconst 0, 1) := by decide +kernel
theorem d_Painter_drawRows_107 : decode prog_5_method_7_code 107 = .ok (.invokestatic 86, 3) := by decide +kernel
theorem d_Painter_drawRows_110 : decode prog_5_method_7_code 110 = .ok (.istore 12, 2) := by decide +kernel
theorem d_Painter_drawRows_112 : decode prog_5_method_7_code 112 = .ok (.aload_n 0, 1) := by decide +kernel
theorem d_Painter_drawRows_113 : decode prog_5_method_7_code 113 = .ok (.getfield 25, 3) := by decide +kernel
theorem d_Painter_drawRows_116 : decode prog_5_method_7_code 116 = .ok (.iload_n 1, 1) := by decide +kernel
theorem d_Painter_drawRows_117 : decode prog_5_method_7_code 117 = .ok (.iaload, 1) := by decide +kernel
theorem d_Painter_drawRows_118 : decode prog_5_method_7_code 118 = .ok (.lload 7, 2) := by decide +kernel
theorem d_Painter_drawRows_120 : decode prog_5_method_7_code 120 = .ok (.iload 11, 2) := by decide +kernel
theorem d_Painter_drawRows_122 : decode prog_5_method_7_code 122 = .ok (.invokestatic 92, 3) := by decide +kernel
theorem d_Painter_drawRows_125 : decode prog_5_method_7_code 125 = .ok (.bipush 63, 2) := by decide +kernel
theorem d_Painter_drawRows_127 : decode prog_5_method_7_code 127 = .ok (.invokestatic 89, 3) := by decide +kernel
theorem d_Painter_drawRows_130 : decode prog_5_method_7_code 130 = .ok (.istore 13, 2) := by decide +kernel
theorem d_Painter_drawRows_132 : decode prog_5_method_7_code 132 = .ok (.iload 12, 2) := by decide +kernel
theorem d_Painter_drawRows_134 : decode prog_5_method_7_code 134 = .ok (.iload 13, 2) := by decide +kernel
theorem d_Painter_drawRows_136 : decode prog_5_method_7_code 136 = .ok (.if_icmp .gt 51, 3) := by decide +kernel
theorem d_Painter_drawRows_139 : decode prog_5_method_7_code 139 = .ok (.aload_n 0, 1) := by decide +kernel
theorem d_Painter_drawRows_140 : decode prog_5_method_7_code 140 = .ok (.getfield 21, 3) := by decide +kernel
theorem d_Painter_drawRows_143 : decode prog_5_method_7_code 143 = .ok (.iload 4, 2) := by decide +kernel
theorem d_Painter_drawRows_145 : decode prog_5_method_7_code 145 = .ok (.iload 11, 2) := by decide +kernel
theorem d_Painter_drawRows_147 : decode prog_5_method_7_code 147 = .ok (.iadd, 1) := by decide +kernel
theorem d_Painter_drawRows_148 : decode prog_5_method_7_code 148 = .ok (.invokevirtual 96, 3) := by decide +kernel
theorem d_Painter_drawRows_151 : decode prog_5_method_7_code 151 = .ok (.istore 14, 2) := by decide +kernel
theorem d_Painter_drawRows_153 : decode prog_5_method_7_code 153 = .ok (.aload_n 0, 1) := by decide +kernel
theorem d_Painter_drawRows_154 : decode prog_5_method_7_code 154 = .ok (.getfield 21, 3) := by decide +kernel
theorem d_Painter_drawRows_157 : decode prog_5_method_7_code 157 = .ok (.getfield 99, 3) := by decide +kernel
theorem d_Painter_drawRows_160 : decode prog_5_method_7_code 160 = .ok (.iload 14, 2) := by decide +kernel
theorem d_Painter_drawRows_162 : decode prog_5_method_7_code 162 = .ok (.iload 12, 2) := by decide +kernel
theorem d_Painter_drawRows_164 : decode prog_5_method_7_code 164 = .ok (.iadd, 1) := by decide +kernel
theorem d_Painter_drawRows_165 : decode prog_5_method_7_code 165 = .ok (.iload 14, 2) := by decide +kernel
theorem d_Painter_drawRows_167 : decode prog_5_method_7_code 167 = .ok (.iload 13, 2) := by decide +kernel
theorem d_Painter_drawRows_169 : decode prog_5_method_7_code 169 = .ok (.iadd, 1) := by decide +kernel
theorem d_Painter_drawRows_170 : decode prog_5_method_7_code 170 = .ok (.iconst 1, 1) := by decide +kernel
theorem d_Painter_drawRows_171 : decode prog_5_method_7_code 171 = .ok (.iadd, 1) := by decide +kernel
theorem d_Painter_drawRows_172 : decode prog_5_method_7_code 172 = .ok (.iload_n 3, 1) := by decide +kernel
theorem d_Painter_drawRows_173 : decode prog_5_method_7_code 173 = .ok (.i2b, 1) := by decide +kernel
theorem d_Painter_drawRows_174 : decode prog_5_method_7_code 174 = .ok (.invokestatic 103, 3) := by decide +kernel
theorem d_Painter_drawRows_177 : decode prog_5_method_7_code 177 = .ok (.aload_n 0, 1) := by decide +kernel
theorem d_Painter_drawRows_178 : decode prog_5_method_7_code 178 = .ok (.dup, 1) := by decide +kernel
theorem d_Painter_drawRows_179 : decode prog_5_method_7_code 179 = .ok (.getfield 42, 3) := by decide +kernel
theorem d_Painter_drawRows_182 : decode prog_5_method_7_code 182 = .ok (.iconst 1, 1) := by decide +kernel
theorem d_Painter_drawRows_183 : decode prog_5_method_7_code 183 = .ok (.iadd, 1) := by decide +kernel
theorem d_Painter_drawRows_184 : decode prog_5_method_7_code 184 = .ok (.putfield 42, 3) := by decide +kernel
theorem d_Painter_drawRows_187 : decode prog_5_method_7_code 187 = .ok (.iinc 11 1, 3) := by decide +kernel
theorem d_Painter_drawRows_190 : decode prog_5_method_7_code 190 = .ok (.goto (-104), 3) := by decide +kernel
theorem d_Painter_drawRows_193 : decode prog_5_method_7_code 193 = .ok (.return_, 1) := by decide +kernel
theorem d_Painter_edgeAt_0 : decode prog_5_method_8_code 0 = .ok (.ldc2_w 81, 3) := by decide +kernel
theorem d_Painter_edgeAt_3 : decode prog_5_method_8_code 3 = .ok (.iload_n 0, 1) := by decide +kernel
theorem d_Painter_edgeAt_4 : decode prog_5_method_8_code 4 = .ok (.i2l, 1) := by decide +kernel
theorem d_Painter_edgeAt_5 : decode prog_5_method_8_code 5 = .ok (.lmul, 1) := by decide +kernel
theorem d_Painter_edgeAt_6 : decode prog_5_method_8_code 6 = .ok (.ldc2_w 109, 3) := by decide +kernel
theorem d_Painter_edgeAt_9 : decode prog_5_method_8_code 9 = .ok (.ladd, 1) := by decide +kernel
theorem d_Painter_edgeAt_10 : decode prog_5_method_8_code 10 = .ok (.iload_n 3, 1) := by decide +kernel
theorem d_Painter_edgeAt_11 : decode prog_5_method_8_code 11 = .ok (.i2l, 1) := by decide +kernel
theorem d_Painter_edgeAt_12 : decode prog_5_method_8_code 12 = .ok (.lload_n 1, 1) := by decide +kernel
theorem d_Painter_edgeAt_13 : decode prog_5_method_8_code 13 = .ok (.lmul, 1) := by decide +kernel
theorem d_Painter_edgeAt_14 : decode prog_5_method_8_code 14 = .ok (.ladd, 1) := by decide +kernel
theorem d_Painter_edgeAt_15 : decode prog_5_method_8_code 15 = .ok (.bipush 16, 2) := by decide +kernel
theorem d_Painter_edgeAt_17 : decode prog_5_method_8_code 17 = .ok (.lshr, 1) := by decide +kernel
theorem d_Painter_edgeAt_18 : decode prog_5_method_8_code 18 = .ok (.l2i, 1) := by decide +kernel
theorem d_Painter_edgeAt_19 : decode prog_5_method_8_code 19 = .ok (.ireturn, 1) := by decide +kernel
theorem d_Painter_scaled_0 : decode prog_5_method_9_code 0 = .ok (.iload_n 0, 1) := by decide +kernel
theorem d_Painter_scaled_1 : decode prog_5_method_9_code 1 = .ok (.iload_n 1, 1) := by decide +kernel
theorem d_Painter_scaled_2 : decode prog_5_method_9_code 2 = .ok (.imul, 1) := by decide +kernel
theorem d_Painter_scaled_3 : decode prog_5_method_9_code 3 = .ok (.bipush 64, 2) := by decide +kernel
theorem d_Painter_scaled_5 : decode prog_5_method_9_code 5 = .ok (.invokestatic 72, 3) := by decide +kernel
theorem d_Painter_scaled_8 : decode prog_5_method_9_code 8 = .ok (.ireturn, 1) := by decide +kernel
theorem d_Player_takeTurn_0 : decode prog_6_method_2_code 0 = .ok (.aload_n 0, 1) := by decide +kernel
theorem d_Player_takeTurn_1 : decode prog_6_method_2_code 1 = .ok (.aload_n 1, 1) := by decide +kernel
theorem d_Player_takeTurn_2 : decode prog_6_method_2_code 2 = .ok (.getfield 44, 3) := by decide +kernel
theorem d_Player_takeTurn_5 : decode prog_6_method_2_code 5 = .ok (.putfield 35, 3) := by decide +kernel
theorem d_Player_takeTurn_8 : decode prog_6_method_2_code 8 = .ok (.aload_n 0, 1) := by decide +kernel
theorem d_Player_takeTurn_9 : decode prog_6_method_2_code 9 = .ok (.iconst 1, 1) := by decide +kernel
theorem d_Player_takeTurn_10 : decode prog_6_method_2_code 10 = .ok (.putfield 39, 3) := by decide +kernel
theorem d_Player_takeTurn_13 : decode prog_6_method_2_code 13 = .ok (.iconst 0, 1) := by decide +kernel
theorem d_Player_takeTurn_14 : decode prog_6_method_2_code 14 = .ok (.istore_n 3, 1) := by decide +kernel
theorem d_Player_takeTurn_15 : decode prog_6_method_2_code 15 = .ok (.iconst 0, 1) := by decide +kernel
theorem d_Player_takeTurn_16 : decode prog_6_method_2_code 16 = .ok (.istore 4, 2) := by decide +kernel
theorem d_Player_takeTurn_18 : decode prog_6_method_2_code 18 = .ok (.iload 4, 2) := by decide +kernel
theorem d_Player_takeTurn_20 : decode prog_6_method_2_code 20 = .ok (.iload_n 2, 1) := by decide +kernel
theorem d_Player_takeTurn_21 : decode prog_6_method_2_code 21 = .ok (.if_icmp .ge 24, 3) := by decide +kernel
theorem d_Player_takeTurn_24 : decode prog_6_method_2_code 24 = .ok (.aload_n 0, 1) := by decide +kernel
theorem d_Player_takeTurn_25 : decode prog_6_method_2_code 25 = .ok (.getfield 39, 3) := by decide +kernel
theorem d_Player_takeTurn_28 : decode prog_6_method_2_code 28 = .ok (.ifCond .eq 17, 3) := by decide +kernel
theorem d_Player_takeTurn_31 : decode prog_6_method_2_code 31 = .ok (.aload_n 0, 1) := by decide +kernel
theorem d_Player_takeTurn_32 : decode prog_6_method_2_code 32 = .ok (.aload_n 1, 1) := by decide +kernel
theorem d_Player_takeTurn_33 : decode prog_6_method_2_code 33 = .ok (.invokevirtual 47, 3) := by decide +kernel
theorem d_Player_takeTurn_36 : decode prog_6_method_2_code 36 = .ok (.iinc 3 1, 3) := by decide +kernel
theorem d_Player_takeTurn_39 : decode prog_6_method_2_code 39 = .ok (.iinc 4 1, 3) := by decide +kernel
theorem d_Player_takeTurn_42 : decode prog_6_method_2_code 42 = .ok (.goto (-24), 3) := by decide +kernel
theorem d_Player_takeTurn_45 : decode prog_6_method_2_code 45 = .ok (.aload_n 1, 1) := by decide +kernel
theorem d_Player_takeTurn_46 : decode prog_6_method_2_code 46 = .ok (.aload_n 0, 1) := by decide +kernel
theorem d_Player_takeTurn_47 : decode prog_6_method_2_code 47 = .ok (.getfield 35, 3) := by decide +kernel
theorem d_Player_takeTurn_50 : decode prog_6_method_2_code 50 = .ok (.putfield 44, 3) := by decide +kernel
theorem d_Player_takeTurn_53 : decode prog_6_method_2_code 53 = .ok (.iload_n 3, 1) := by decide +kernel
theorem d_Player_takeTurn_54 : decode prog_6_method_2_code 54 = .ok (.ireturn, 1) := by decide +kernel
theorem d_Player_doInstruction_0 : decode prog_6_method_3_code 0 = .ok (.aload_n 0, 1) := by decide +kernel
theorem d_Player_doInstruction_1 : decode prog_6_method_3_code 1 = .ok (.invokevirtual 51, 3) := by decide +kernel
theorem d_Player_doInstruction_4 : decode prog_6_method_3_code 4 = .ok (.istore_n 2, 1) := by decide +kernel
theorem d_Player_doInstruction_5 : decode prog_6_method_3_code 5 = .ok (.iload_n 2, 1) := by decide +kernel
theorem d_Player_doInstruction_6 : decode prog_6_method_3_code 6 = .ok (.bipush 8, 2) := by decide +kernel
theorem d_Player_doInstruction_8 : decode prog_6_method_3_code 8 = .ok (.if_icmp .gt 9, 3) := by decide +kernel
theorem d_Player_doInstruction_11 : decode prog_6_method_3_code 11 = .ok (.aload_n 0, 1) := by decide +kernel
theorem d_Player_doInstruction_12 : decode prog_6_method_3_code 12 = .ok (.iload_n 2, 1) := by decide +kernel
theorem d_Player_doInstruction_13 : decode prog_6_method_3_code 13 = .ok (.invokevirtual 55, 3) := by decide +kernel
theorem d_Player_doInstruction_16 : decode prog_6_method_3_code 16 = .ok (.return_, 1) := by decide +kernel
theorem d_Player_doInstruction_17 : decode prog_6_method_3_code 17 = .ok (.iload_n 2, 1) := by decide +kernel
theorem d_Player_doInstruction_18 : decode prog_6_method_3_code 18 = .ok (.tableswitch 157 9 22 #[70, 81, 89, 97, 104, 112, 120, 127, 134, 142, 142, 142, 142, 150], 70) := by decide +kernel
theorem d_Player_doInstruction_88 : decode prog_6_method_3_code 88 = .ok (.aload_n 0, 1) := by decide +kernel
theorem d_Player_doInstruction_89 : decode prog_6_method_3_code 89 = .ok (.aload_n 0, 1) := by decide +kernel
theorem d_Player_doInstruction_90 : decode prog_6_method_3_code 90 = .ok (.invokevirtual 59, 3) := by decide +kernel
theorem d_Player_doInstruction_93 : decode prog_6_method_3_code 93 = .ok (.putfield 35, 3) := by decide +kernel
theorem d_Player_doInstruction_96 : decode prog_6_method_3_code 96 = .ok (.goto 85, 3) := by decide +kernel
theorem d_Player_doInstruction_99 : decode prog_6_method_3_code 99 = .ok (.aload_n 0, 1) := by decide +kernel
theorem d_Player_doInstruction_100 : decode prog_6_method_3_code 100 = .ok (.aload_n 1, 1) := by decide +kernel
theorem d_Player_doInstruction_101 : decode prog_6_method_3_code 101 = .ok (.invokevirtual 62, 3) := by decide +kernel
theorem d_Player_doInstruction_104 : decode prog_6_method_3_code 104 = .ok (.goto 77, 3) := by decide +kernel
theorem d_Player_doInstruction_107 : decode prog_6_method_3_code 107 = .ok (.aload_n 0, 1) := by decide +kernel
theorem d_Player_doInstruction_108 : decode prog_6_method_3_code 108 = .ok (.aload_n 1, 1) := by decide +kernel
theorem d_Player_doInstruction_109 : decode prog_6_method_3_code 109 = .ok (.invokevirtual 65, 3) := by decide +kernel
theorem d_Player_doInstruction_112 : decode prog_6_method_3_code 112 = .ok (.goto 69, 3) := by decide +kernel
theorem d_Player_doInstruction_115 : decode prog_6_method_3_code 115 = .ok (.aload_n 0, 1) := by decide +kernel
theorem d_Player_doInstruction_116 : decode prog_6_method_3_code 116 = .ok (.invokevirtual 68, 3) := by decide +kernel
theorem d_Player_doInstruction_119 : decode prog_6_method_3_code 119 = .ok (.goto 62, 3) := by decide +kernel
theorem d_Player_doInstruction_122 : decode prog_6_method_3_code 122 = .ok (.aload_n 0, 1) := by decide +kernel
theorem d_Player_doInstruction_123 : decode prog_6_method_3_code 123 = .ok (.aload_n 1, 1) := by decide +kernel
theorem d_Player_doInstruction_124 : decode prog_6_method_3_code 124 = .ok (.invokevirtual 71, 3) := by decide +kernel
theorem d_Player_doInstruction_127 : decode prog_6_method_3_code 127 = .ok (.goto 54, 3) := by decide +kernel
theorem d_Player_doInstruction_130 : decode prog_6_method_3_code 130 = .ok (.aload_n 0, 1) := by decide +kernel
theorem d_Player_doInstruction_131 : decode prog_6_method_3_code 131 = .ok (.iconst 0, 1) := by decide +kernel
theorem d_Player_doInstruction_132 : decode prog_6_method_3_code 132 = .ok (.putfield 39, 3) := by decide +kernel
theorem d_Player_doInstruction_135 : decode prog_6_method_3_code 135 = .ok (.goto 46, 3) := by decide +kernel
theorem d_Player_doInstruction_138 : decode prog_6_method_3_code 138 = .ok (.aload_n 0, 1) := by decide +kernel
theorem d_Player_doInstruction_139 : decode prog_6_method_3_code 139 = .ok (.invokevirtual 74, 3) := by decide +kernel
theorem d_Player_doInstruction_142 : decode prog_6_method_3_code 142 = .ok (.goto 39, 3) := by decide +kernel
theorem d_Player_doInstruction_145 : decode prog_6_method_3_code 145 = .ok (.aload_n 0, 1) := by decide +kernel
theorem d_Player_doInstruction_146 : decode prog_6_method_3_code 146 = .ok (.invokevirtual 77, 3) := by decide +kernel
theorem d_Player_doInstruction_149 : decode prog_6_method_3_code 149 = .ok (.goto 32, 3) := by decide +kernel
theorem d_Player_doInstruction_152 : decode prog_6_method_3_code 152 = .ok (.aload_n 0, 1) := by decide +kernel
theorem d_Player_doInstruction_153 : decode prog_6_method_3_code 153 = .ok (.aload_n 1, 1) := by decide +kernel
theorem d_Player_doInstruction_154 : decode prog_6_method_3_code 154 = .ok (.invokevirtual 80, 3) := by decide +kernel
theorem d_Player_doInstruction_157 : decode prog_6_method_3_code 157 = .ok (.goto 24, 3) := by decide +kernel
theorem d_Player_doInstruction_160 : decode prog_6_method_3_code 160 = .ok (.aload_n 0, 1) := by decide +kernel
theorem d_Player_doInstruction_161 : decode prog_6_method_3_code 161 = .ok (.iload_n 2, 1) := by decide +kernel
theorem d_Player_doInstruction_162 : decode prog_6_method_3_code 162 = .ok (.invokevirtual 83, 3) := by decide +kernel
theorem d_Player_doInstruction_165 : decode prog_6_method_3_code 165 = .ok (.goto 16, 3) := by decide +kernel
theorem d_Player_doInstruction_168 : decode prog_6_method_3_code 168 = .ok (.aload_n 0, 1) := by decide +kernel
theorem d_Player_doInstruction_169 : decode prog_6_method_3_code 169 = .ok (.invokevirtual 86, 3) := by decide +kernel
theorem d_Player_doInstruction_172 : decode prog_6_method_3_code 172 = .ok (.goto 9, 3) := by decide +kernel
theorem d_Player_doInstruction_175 : decode prog_6_method_3_code 175 = .ok (.aload_n 0, 1) := by decide +kernel
theorem d_Player_doInstruction_176 : decode prog_6_method_3_code 176 = .ok (.aload_n 1, 1) := by decide +kernel
theorem d_Player_doInstruction_177 : decode prog_6_method_3_code 177 = .ok (.iconst 5, 1) := by decide +kernel
theorem d_Player_doInstruction_178 : decode prog_6_method_3_code 178 = .ok (.invokevirtual 89, 3) := by decide +kernel
theorem d_Player_doInstruction_181 : decode prog_6_method_3_code 181 = .ok (.return_, 1) := by decide +kernel
theorem d_Player_compute_0 : decode prog_6_method_4_code 0 = .ok (.aload_n 0, 1) := by decide +kernel
theorem d_Player_compute_1 : decode prog_6_method_4_code 1 = .ok (.invokevirtual 93, 3) := by decide +kernel
theorem d_Player_compute_4 : decode prog_6_method_4_code 4 = .ok (.istore_n 2, 1) := by decide +kernel
theorem d_Player_compute_5 : decode prog_6_method_4_code 5 = .ok (.iload_n 1, 1) := by decide +kernel
theorem d_Player_compute_6 : decode prog_6_method_4_code 6 = .ok (.tableswitch 202 0 7 #[46, 58, 75, 99, 118, 142, 161, 180], 46) := by decide +kernel
theorem d_Player_compute_52 : decode prog_6_method_4_code 52 = .ok (.aload_n 0, 1) := by decide +kernel
theorem d_Player_compute_53 : decode prog_6_method_4_code 53 = .ok (.iload_n 2, 1) := by decide +kernel
theorem d_Player_compute_54 : decode prog_6_method_4_code 54 = .ok (.aload_n 0, 1) := by decide +kernel
theorem d_Player_compute_55 : decode prog_6_method_4_code 55 = .ok (.invokevirtual 96, 3) := by decide +kernel
theorem d_Player_compute_58 : decode prog_6_method_4_code 58 = .ok (.invokevirtual 99, 3) := by decide +kernel
theorem d_Player_compute_61 : decode prog_6_method_4_code 61 = .ok (.goto 166, 3) := by decide +kernel
theorem d_Player_compute_64 : decode prog_6_method_4_code 64 = .ok (.aload_n 0, 1) := by decide +kernel
theorem d_Player_compute_65 : decode prog_6_method_4_code 65 = .ok (.iload_n 2, 1) := by decide +kernel
theorem d_Player_compute_66 : decode prog_6_method_4_code 66 = .ok (.aload_n 0, 1) := by decide +kernel
theorem d_Player_compute_67 : decode prog_6_method_4_code 67 = .ok (.getfield 18, 3) := by decide +kernel
theorem d_Player_compute_70 : decode prog_6_method_4_code 70 = .ok (.aload_n 0, 1) := by decide +kernel
theorem d_Player_compute_71 : decode prog_6_method_4_code 71 = .ok (.invokevirtual 93, 3) := by decide +kernel
theorem d_Player_compute_74 : decode prog_6_method_4_code 74 = .ok (.iaload, 1) := by decide +kernel
theorem d_Player_compute_75 : decode prog_6_method_4_code 75 = .ok (.invokevirtual 99, 3) := by decide +kernel
theorem d_Player_compute_78 : decode prog_6_method_4_code 78 = .ok (.goto 149, 3) := by decide +kernel
theorem d_Player_compute_81 : decode prog_6_method_4_code 81 = .ok (.aload_n 0, 1) := by decide +kernel
theorem d_Player_compute_82 : decode prog_6_method_4_code 82 = .ok (.iload_n 2, 1) := by decide +kernel
theorem d_Player_compute_83 : decode prog_6_method_4_code 83 = .ok (.aload_n 0, 1) := by decide +kernel
theorem d_Player_compute_84 : decode prog_6_method_4_code 84 = .ok (.getfield 18, 3) := by decide +kernel
theorem d_Player_compute_87 : decode prog_6_method_4_code 87 = .ok (.iload_n 2, 1) := by decide +kernel
theorem d_Player_compute_88 : decode prog_6_method_4_code 88 = .ok (.iaload, 1) := by decide +kernel
theorem d_Player_compute_89 : decode prog_6_method_4_code 89 = .ok (.aload_n 0, 1) := by decide +kernel
theorem d_Player_compute_90 : decode prog_6_method_4_code 90 = .ok (.getfield 18, 3) := by decide +kernel
theorem d_Player_compute_93 : decode prog_6_method_4_code 93 = .ok (.aload_n 0, 1) := by decide +kernel
theorem d_Player_compute_94 : decode prog_6_method_4_code 94 = .ok (.invokevirtual 93, 3) := by decide +kernel
theorem d_Player_compute_97 : decode prog_6_method_4_code 97 = .ok (.iaload, 1) := by decide +kernel
theorem d_Player_compute_98 : decode prog_6_method_4_code 98 = .ok (.iadd, 1) := by decide +kernel
theorem d_Player_compute_99 : decode prog_6_method_4_code 99 = .ok (.invokevirtual 99, 3) := by decide +kernel
theorem d_Player_compute_102 : decode prog_6_method_4_code 102 = .ok (.goto 125, 3) := by decide +kernel
theorem d_Player_compute_105 : decode prog_6_method_4_code 105 = .ok (.aload_n 0, 1) := by decide +kernel
theorem d_Player_compute_106 : decode prog_6_method_4_code 106 = .ok (.iload_n 2, 1) := by decide +kernel
theorem d_Player_compute_107 : decode prog_6_method_4_code 107 = .ok (.aload_n 0, 1) := by decide +kernel
theorem d_Player_compute_108 : decode prog_6_method_4_code 108 = .ok (.getfield 18, 3) := by decide +kernel
theorem d_Player_compute_111 : decode prog_6_method_4_code 111 = .ok (.iload_n 2, 1) := by decide +kernel
theorem d_Player_compute_112 : decode prog_6_method_4_code 112 = .ok (.iaload, 1) := by decide +kernel
theorem d_Player_compute_113 : decode prog_6_method_4_code 113 = .ok (.aload_n 0, 1) := by decide +kernel
theorem d_Player_compute_114 : decode prog_6_method_4_code 114 = .ok (.invokevirtual 96, 3) := by decide +kernel
theorem d_Player_compute_117 : decode prog_6_method_4_code 117 = .ok (.iadd, 1) := by decide +kernel
theorem d_Player_compute_118 : decode prog_6_method_4_code 118 = .ok (.invokevirtual 99, 3) := by decide +kernel
theorem d_Player_compute_121 : decode prog_6_method_4_code 121 = .ok (.goto 106, 3) := by decide +kernel
theorem d_Player_compute_124 : decode prog_6_method_4_code 124 = .ok (.aload_n 0, 1) := by decide +kernel
theorem d_Player_compute_125 : decode prog_6_method_4_code 125 = .ok (.iload_n 2, 1) := by decide +kernel
theorem d_Player_compute_126 : decode prog_6_method_4_code 126 = .ok (.aload_n 0, 1) := by decide +kernel
theorem d_Player_compute_127 : decode prog_6_method_4_code 127 = .ok (.getfield 18, 3) := by decide +kernel
theorem d_Player_compute_130 : decode prog_6_method_4_code 130 = .ok (.iload_n 2, 1) := by decide +kernel
theorem d_Player_compute_131 : decode prog_6_method_4_code 131 = .ok (.iaload, 1) := by decide +kernel
theorem d_Player_compute_132 : decode prog_6_method_4_code 132 = .ok (.aload_n 0, 1) := by decide +kernel
theorem d_Player_compute_133 : decode prog_6_method_4_code 133 = .ok (.getfield 18, 3) := by decide +kernel
theorem d_Player_compute_136 : decode prog_6_method_4_code 136 = .ok (.aload_n 0, 1) := by decide +kernel
theorem d_Player_compute_137 : decode prog_6_method_4_code 137 = .ok (.invokevirtual 93, 3) := by decide +kernel
theorem d_Player_compute_140 : decode prog_6_method_4_code 140 = .ok (.iaload, 1) := by decide +kernel
theorem d_Player_compute_141 : decode prog_6_method_4_code 141 = .ok (.isub, 1) := by decide +kernel
theorem d_Player_compute_142 : decode prog_6_method_4_code 142 = .ok (.invokevirtual 99, 3) := by decide +kernel
theorem d_Player_compute_145 : decode prog_6_method_4_code 145 = .ok (.goto 82, 3) := by decide +kernel
theorem d_Player_compute_148 : decode prog_6_method_4_code 148 = .ok (.aload_n 0, 1) := by decide +kernel
theorem d_Player_compute_149 : decode prog_6_method_4_code 149 = .ok (.iload_n 2, 1) := by decide +kernel
theorem d_Player_compute_150 : decode prog_6_method_4_code 150 = .ok (.aload_n 0, 1) := by decide +kernel
theorem d_Player_compute_151 : decode prog_6_method_4_code 151 = .ok (.getfield 18, 3) := by decide +kernel
theorem d_Player_compute_154 : decode prog_6_method_4_code 154 = .ok (.iload_n 2, 1) := by decide +kernel
theorem d_Player_compute_155 : decode prog_6_method_4_code 155 = .ok (.iaload, 1) := by decide +kernel
theorem d_Player_compute_156 : decode prog_6_method_4_code 156 = .ok (.aload_n 0, 1) := by decide +kernel
theorem d_Player_compute_157 : decode prog_6_method_4_code 157 = .ok (.invokevirtual 96, 3) := by decide +kernel
theorem d_Player_compute_160 : decode prog_6_method_4_code 160 = .ok (.iand, 1) := by decide +kernel
theorem d_Player_compute_161 : decode prog_6_method_4_code 161 = .ok (.invokevirtual 99, 3) := by decide +kernel
theorem d_Player_compute_164 : decode prog_6_method_4_code 164 = .ok (.goto 63, 3) := by decide +kernel
theorem d_Player_compute_167 : decode prog_6_method_4_code 167 = .ok (.aload_n 0, 1) := by decide +kernel
theorem d_Player_compute_168 : decode prog_6_method_4_code 168 = .ok (.iload_n 2, 1) := by decide +kernel
theorem d_Player_compute_169 : decode prog_6_method_4_code 169 = .ok (.aload_n 0, 1) := by decide +kernel
theorem d_Player_compute_170 : decode prog_6_method_4_code 170 = .ok (.getfield 18, 3) := by decide +kernel
theorem d_Player_compute_173 : decode prog_6_method_4_code 173 = .ok (.iload_n 2, 1) := by decide +kernel
theorem d_Player_compute_174 : decode prog_6_method_4_code 174 = .ok (.iaload, 1) := by decide +kernel
theorem d_Player_compute_175 : decode prog_6_method_4_code 175 = .ok (.aload_n 0, 1) := by decide +kernel
theorem d_Player_compute_176 : decode prog_6_method_4_code 176 = .ok (.invokevirtual 96, 3) := by decide +kernel
theorem d_Player_compute_179 : decode prog_6_method_4_code 179 = .ok (.ior, 1) := by decide +kernel
theorem d_Player_compute_180 : decode prog_6_method_4_code 180 = .ok (.invokevirtual 99, 3) := by decide +kernel
theorem d_Player_compute_183 : decode prog_6_method_4_code 183 = .ok (.goto 44, 3) := by decide +kernel
theorem d_Player_compute_186 : decode prog_6_method_4_code 186 = .ok (.aload_n 0, 1) := by decide +kernel
theorem d_Player_compute_187 : decode prog_6_method_4_code 187 = .ok (.iload_n 2, 1) := by decide +kernel
theorem d_Player_compute_188 : decode prog_6_method_4_code 188 = .ok (.aload_n 0, 1) := by decide +kernel
theorem d_Player_compute_189 : decode prog_6_method_4_code 189 = .ok (.getfield 18, 3) := by decide +kernel
theorem d_Player_compute_192 : decode prog_6_method_4_code 192 = .ok (.iload_n 2, 1) := by decide +kernel
theorem d_Player_compute_193 : decode prog_6_method_4_code 193 = .ok (.iaload, 1) := by decide +kernel
theorem d_Player_compute_194 : decode prog_6_method_4_code 194 = .ok (.aload_n 0, 1) := by decide +kernel
theorem d_Player_compute_195 : decode prog_6_method_4_code 195 = .ok (.invokevirtual 51, 3) := by decide +kernel
theorem d_Player_compute_198 : decode prog_6_method_4_code 198 = .ok (.bipush 15, 2) := by decide +kernel
theorem d_Player_compute_200 : decode prog_6_method_4_code 200 = .ok (.iand, 1) := by decide +kernel
theorem d_Player_compute_201 : decode prog_6_method_4_code 201 = .ok (.ishl, 1) := by decide +kernel
theorem d_Player_compute_202 : decode prog_6_method_4_code 202 = .ok (.invokevirtual 99, 3) := by decide +kernel
theorem d_Player_compute_205 : decode prog_6_method_4_code 205 = .ok (.goto 22, 3) := by decide +kernel
theorem d_Player_compute_208 : decode prog_6_method_4_code 208 = .ok (.aload_n 0, 1) := by decide +kernel
theorem d_Player_compute_209 : decode prog_6_method_4_code 209 = .ok (.iload_n 2, 1) := by decide +kernel
theorem d_Player_compute_210 : decode prog_6_method_4_code 210 = .ok (.aload_n 0, 1) := by decide +kernel
theorem d_Player_compute_211 : decode prog_6_method_4_code 211 = .ok (.getfield 18, 3) := by decide +kernel
theorem d_Player_compute_214 : decode prog_6_method_4_code 214 = .ok (.iload_n 2, 1) := by decide +kernel
theorem d_Player_compute_215 : decode prog_6_method_4_code 215 = .ok (.iaload, 1) := by decide +kernel
theorem d_Player_compute_216 : decode prog_6_method_4_code 216 = .ok (.aload_n 0, 1) := by decide +kernel
theorem d_Player_compute_217 : decode prog_6_method_4_code 217 = .ok (.invokevirtual 51, 3) := by decide +kernel
theorem d_Player_compute_220 : decode prog_6_method_4_code 220 = .ok (.bipush 15, 2) := by decide +kernel
theorem d_Player_compute_222 : decode prog_6_method_4_code 222 = .ok (.iand, 1) := by decide +kernel
theorem d_Player_compute_223 : decode prog_6_method_4_code 223 = .ok (.ishr, 1) := by decide +kernel
theorem d_Player_compute_224 : decode prog_6_method_4_code 224 = .ok (.invokevirtual 99, 3) := by decide +kernel
theorem d_Player_compute_227 : decode prog_6_method_4_code 227 = .ok (.return_, 1) := by decide +kernel
theorem d_Player_callAddress_0 : decode prog_6_method_5_code 0 = .ok (.aload_n 0, 1) := by decide +kernel
theorem d_Player_callAddress_1 : decode prog_6_method_5_code 1 = .ok (.invokevirtual 59, 3) := by decide +kernel
theorem d_Player_callAddress_4 : decode prog_6_method_5_code 4 = .ok (.istore_n 2, 1) := by decide +kernel
theorem d_Player_callAddress_5 : decode prog_6_method_5_code 5 = .ok (.aload_n 1, 1) := by decide +kernel
theorem d_Player_callAddress_6 : decode prog_6_method_5_code 6 = .ok (.aload_n 0, 1) := by decide +kernel
theorem d_Player_callAddress_7 : decode prog_6_method_5_code 7 = .ok (.getfield 35, 3) := by decide +kernel
theorem d_Player_callAddress_10 : decode prog_6_method_5_code 10 = .ok (.invokevirtual 103, 3) := by decide +kernel
theorem d_Player_callAddress_13 : decode prog_6_method_5_code 13 = .ok (.ifCond .eq 11, 3) := by decide +kernel
theorem d_Player_callAddress_16 : decode prog_6_method_5_code 16 = .ok (.aload_n 0, 1) := by decide +kernel
theorem d_Player_callAddress_17 : decode prog_6_method_5_code 17 = .ok (.iload_n 2, 1) := by decide +kernel
theorem d_Player_callAddress_18 : decode prog_6_method_5_code 18 = .ok (.putfield 35, 3) := by decide +kernel
theorem d_Player_callAddress_21 : decode prog_6_method_5_code 21 = .ok (.goto 9, 3) := by decide +kernel
theorem d_Player_callAddress_24 : decode prog_6_method_5_code 24 = .ok (.aload_n 0, 1) := by decide +kernel
theorem d_Player_callAddress_25 : decode prog_6_method_5_code 25 = .ok (.aload_n 1, 1) := by decide +kernel
theorem d_Player_callAddress_26 : decode prog_6_method_5_code 26 = .ok (.iconst 1, 1) := by decide +kernel
theorem d_Player_callAddress_27 : decode prog_6_method_5_code 27 = .ok (.invokevirtual 89, 3) := by decide +kernel
theorem d_Player_callAddress_30 : decode prog_6_method_5_code 30 = .ok (.return_, 1) := by decide +kernel
theorem d_Player_comeBack_0 : decode prog_6_method_6_code 0 = .ok (.aload_n 1, 1) := by decide +kernel
theorem d_Player_comeBack_1 : decode prog_6_method_6_code 1 = .ok (.invokevirtual 107, 3) := by decide +kernel
theorem d_Player_comeBack_4 : decode prog_6_method_6_code 4 = .ok (.istore_n 2, 1) := by decide +kernel
theorem d_Player_comeBack_5 : decode prog_6_method_6_code 5 = .ok (.iload_n 2, 1) := by decide +kernel
theorem d_Player_comeBack_6 : decode prog_6_method_6_code 6 = .ok (.iconst (-1), 1) := by decide +kernel
theorem d_Player_comeBack_7 : decode prog_6_method_6_code 7 = .ok (.if_icmp .ne 12, 3) := by decide +kernel
theorem d_Player_comeBack_10 : decode prog_6_method_6_code 10 = .ok (.aload_n 0, 1) := by decide +kernel
theorem d_Player_comeBack_11 : decode prog_6_method_6_code 11 = .ok (.aload_n 1, 1) := by decide +kernel
theorem d_Player_comeBack_12 : decode prog_6_method_6_code 12 = .ok (.iconst 2, 1) := by decide +kernel
theorem d_Player_comeBack_13 : decode prog_6_method_6_code 13 = .ok (.invokevirtual 89, 3) := by decide +kernel
theorem d_Player_comeBack_16 : decode prog_6_method_6_code 16 = .ok (.goto 8, 3) := by decide +kernel
theorem d_Player_comeBack_19 : decode prog_6_method_6_code 19 = .ok (.aload_n 0, 1) := by decide +kernel
theorem d_Player_comeBack_20 : decode prog_6_method_6_code 20 = .ok (.iload_n 2, 1) := by decide +kernel
theorem d_Player_comeBack_21 : decode prog_6_method_6_code 21 = .ok (.putfield 35, 3) := by decide +kernel
theorem d_Player_comeBack_24 : decode prog_6_method_6_code 24 = .ok (.return_, 1) := by decide +kernel
theorem d_Player_loop_0 : decode prog_6_method_7_code 0 = .ok (.aload_n 0, 1) := by decide +kernel
theorem d_Player_loop_1 : decode prog_6_method_7_code 1 = .ok (.invokevirtual 93, 3) := by decide +kernel
theorem d_Player_loop_4 : decode prog_6_method_7_code 4 = .ok (.istore_n 1, 1) := by decide +kernel
theorem d_Player_loop_5 : decode prog_6_method_7_code 5 = .ok (.aload_n 0, 1) := by decide +kernel
theorem d_Player_loop_6 : decode prog_6_method_7_code 6 = .ok (.invokevirtual 59, 3) := by decide +kernel
theorem d_Player_loop_9 : decode prog_6_method_7_code 9 = .ok (.istore_n 2, 1) := by decide +kernel
theorem d_Player_loop_10 : decode prog_6_method_7_code 10 = .ok (.aload_n 0, 1) := by decide +kernel
theorem d_Player_loop_11 : decode prog_6_method_7_code 11 = .ok (.iload_n 1, 1) := by decide +kernel
theorem d_Player_loop_12 : decode prog_6_method_7_code 12 = .ok (.aload_n 0, 1) := by decide +kernel
theorem d_Player_loop_13 : decode prog_6_method_7_code 13 = .ok (.getfield 18, 3) := by decide +kernel
theorem d_Player_loop_16 : decode prog_6_method_7_code 16 = .ok (.iload_n 1, 1) := by decide +kernel
theorem d_Player_loop_17 : decode prog_6_method_7_code 17 = .ok (.iaload, 1) := by decide +kernel
theorem d_Player_loop_18 : decode prog_6_method_7_code 18 = .ok (.iconst 1, 1) := by decide +kernel
theorem d_Player_loop_19 : decode prog_6_method_7_code 19 = .ok (.isub, 1) := by decide +kernel
theorem d_Player_loop_20 : decode prog_6_method_7_code 20 = .ok (.invokevirtual 99, 3) := by decide +kernel
theorem d_Player_loop_23 : decode prog_6_method_7_code 23 = .ok (.aload_n 0, 1) := by decide +kernel
theorem d_Player_loop_24 : decode prog_6_method_7_code 24 = .ok (.getfield 18, 3) := by decide +kernel
theorem d_Player_loop_27 : decode prog_6_method_7_code 27 = .ok (.iload_n 1, 1) := by decide +kernel
theorem d_Player_loop_28 : decode prog_6_method_7_code 28 = .ok (.iaload, 1) := by decide +kernel
theorem d_Player_loop_29 : decode prog_6_method_7_code 29 = .ok (.ifCond .eq 8, 3) := by decide +kernel
theorem d_Player_loop_32 : decode prog_6_method_7_code 32 = .ok (.aload_n 0, 1) := by decide +kernel
theorem d_Player_loop_33 : decode prog_6_method_7_code 33 = .ok (.iload_n 2, 1) := by decide +kernel
theorem d_Player_loop_34 : decode prog_6_method_7_code 34 = .ok (.putfield 35, 3) := by decide +kernel
theorem d_Player_loop_37 : decode prog_6_method_7_code 37 = .ok (.return_, 1) := by decide +kernel
theorem d_Player_jumpIf_0 : decode prog_6_method_8_code 0 = .ok (.aload_n 0, 1) := by decide +kernel
theorem d_Player_jumpIf_1 : decode prog_6_method_8_code 1 = .ok (.invokevirtual 51, 3) := by decide +kernel
theorem d_Player_jumpIf_4 : decode prog_6_method_8_code 4 = .ok (.istore_n 2, 1) := by decide +kernel
theorem d_Player_jumpIf_5 : decode prog_6_method_8_code 5 = .ok (.aload_n 0, 1) := by decide +kernel
theorem d_Player_jumpIf_6 : decode prog_6_method_8_code 6 = .ok (.getfield 18, 3) := by decide +kernel
theorem d_Player_jumpIf_9 : decode prog_6_method_8_code 9 = .ok (.aload_n 0, 1) := by decide +kernel
theorem d_Player_jumpIf_10 : decode prog_6_method_8_code 10 = .ok (.invokevirtual 93, 3) := by decide +kernel
theorem d_Player_jumpIf_13 : decode prog_6_method_8_code 13 = .ok (.iaload, 1) := by decide +kernel
theorem d_Player_jumpIf_14 : decode prog_6_method_8_code 14 = .ok (.istore_n 3, 1) := by decide +kernel
theorem d_Player_jumpIf_15 : decode prog_6_method_8_code 15 = .ok (.aload_n 0, 1) := by decide +kernel
theorem d_Player_jumpIf_16 : decode prog_6_method_8_code 16 = .ok (.iload_n 2, 1) := by decide +kernel
theorem d_Player_jumpIf_17 : decode prog_6_method_8_code 17 = .ok (.invokevirtual 110, 3) := by decide +kernel
theorem d_Player_jumpIf_20 : decode prog_6_method_8_code 20 = .ok (.istore 4, 2) := by decide +kernel
theorem d_Player_jumpIf_22 : decode prog_6_method_8_code 22 = .ok (.iload_n 2, 1) := by decide +kernel
theorem d_Player_jumpIf_23 : decode prog_6_method_8_code 23 = .ok (.bipush 7, 2) := by decide +kernel
theorem d_Player_jumpIf_25 : decode prog_6_method_8_code 25 = .ok (.iand, 1) := by decide +kernel
theorem d_Player_jumpIf_26 : decode prog_6_method_8_code 26 = .ok (.istore 5, 2) := by decide +kernel
theorem d_Player_jumpIf_28 : decode prog_6_method_8_code 28 = .ok (.iload 5, 2) := by decide +kernel
theorem d_Player_jumpIf_30 : decode prog_6_method_8_code 30 = .ok (.iconst 5, 1) := by decide +kernel
theorem d_Player_jumpIf_31 : decode prog_6_method_8_code 31 = .ok (.if_icmp .le 10, 3) := by decide +kernel
theorem d_Player_jumpIf_34 : decode prog_6_method_8_code 34 = .ok (.aload_n 0, 1) := by decide +kernel
theorem d_Player_jumpIf_35 : decode prog_6_method_8_code 35 = .ok (.aload_n 1, 1) := by decide +kernel
theorem d_Player_jumpIf_36 : decode prog_6_method_8_code 36 = .ok (.iconst 3, 1) := by decide +kernel
theorem d_Player_jumpIf_37 : decode prog_6_method_8_code 37 = .ok (.invokevirtual 89, 3) := by decide +kernel
theorem d_Player_jumpIf_40 : decode prog_6_method_8_code 40 = .ok (.return_, 1) := by decide +kernel
theorem d_Player_jumpIf_41 : decode prog_6_method_8_code 41 = .ok (.aload_n 0, 1) := by decide +kernel
theorem d_Player_jumpIf_42 : decode prog_6_method_8_code 42 = .ok (.invokevirtual 59, 3) := by decide +kernel
theorem d_Player_jumpIf_45 : decode prog_6_method_8_code 45 = .ok (.istore 6, 2) := by decide +kernel
theorem d_Player_jumpIf_47 : decode prog_6_method_8_code 47 = .ok (.iload 5, 2) := by decide +kernel
theorem d_Player_jumpIf_49 : decode prog_6_method_8_code 49 = .ok (.iload_n 3, 1) := by decide +kernel
theorem d_Player_jumpIf_50 : decode prog_6_method_8_code 50 = .ok (.iload 4, 2) := by decide +kernel
theorem d_Player_jumpIf_52 : decode prog_6_method_8_code 52 = .ok (.invokestatic 114, 3) := by decide +kernel
theorem d_Player_jumpIf_55 : decode prog_6_method_8_code 55 = .ok (.ifCond .eq 9, 3) := by decide +kernel
theorem d_Player_jumpIf_58 : decode prog_6_method_8_code 58 = .ok (.aload_n 0, 1) := by decide +kernel
theorem d_Player_jumpIf_59 : decode prog_6_method_8_code 59 = .ok (.iload 6, 2) := by decide +kernel
theorem d_Player_jumpIf_61 : decode prog_6_method_8_code 61 = .ok (.putfield 35, 3) := by decide +kernel
theorem d_Player_jumpIf_64 : decode prog_6_method_8_code 64 = .ok (.return_, 1) := by decide +kernel
theorem d_Player_nextCompared_0 : decode prog_6_method_9_code 0 = .ok (.iload_n 1, 1) := by decide +kernel
theorem d_Player_nextCompared_1 : decode prog_6_method_9_code 1 = .ok (.sipush 128, 3) := by decide +kernel
theorem d_Player_nextCompared_4 : decode prog_6_method_9_code 4 = .ok (.iand, 1) := by decide +kernel
theorem d_Player_nextCompared_5 : decode prog_6_method_9_code 5 = .ok (.ifCond .eq 13, 3) := by decide +kernel
theorem d_Player_nextCompared_8 : decode prog_6_method_9_code 8 = .ok (.aload_n 0, 1) := by decide +kernel
theorem d_Player_nextCompared_9 : decode prog_6_method_9_code 9 = .ok (.getfield 18, 3) := by decide +kernel
theorem d_Player_nextCompared_12 : decode prog_6_method_9_code 12 = .ok (.aload_n 0, 1) := by decide +kernel
theorem d_Player_nextCompared_13 : decode prog_6_method_9_code 13 = .ok (.invokevirtual 93, 3) := by decide +kernel
theorem d_Player_nextCompared_16 : decode prog_6_method_9_code 16 = .ok (.iaload, 1) := by decide +kernel
theorem d_Player_nextCompared_17 : decode prog_6_method_9_code 17 = .ok (.ireturn, 1) := by decide +kernel
theorem d_Player_nextCompared_18 : decode prog_6_method_9_code 18 = .ok (.iload_n 1, 1) := by decide +kernel
theorem d_Player_nextCompared_19 : decode prog_6_method_9_code 19 = .ok (.bipush 64, 2) := by decide +kernel
theorem d_Player_nextCompared_21 : decode prog_6_method_9_code 21 = .ok (.iand, 1) := by decide +kernel
theorem d_Player_nextCompared_22 : decode prog_6_method_9_code 22 = .ok (.ifCond .eq 10, 3) := by decide +kernel
theorem d_Player_nextCompared_25 : decode prog_6_method_9_code 25 = .ok (.aload_n 0, 1) := by decide +kernel
theorem d_Player_nextCompared_26 : decode prog_6_method_9_code 26 = .ok (.invokevirtual 96, 3) := by decide +kernel
theorem d_Player_nextCompared_29 : decode prog_6_method_9_code 29 = .ok (.goto 7, 3) := by decide +kernel
theorem d_Player_nextCompared_32 : decode prog_6_method_9_code 32 = .ok (.aload_n 0, 1) := by decide +kernel
theorem d_Player_nextCompared_33 : decode prog_6_method_9_code 33 = .ok (.invokevirtual 51, 3) := by decide +kernel
theorem d_Player_nextCompared_36 : decode prog_6_method_9_code 36 = .ok (.ireturn, 1) := by decide +kernel
theorem d_Player_compares_0 : decode prog_6_method_10_code 0 = .ok (.iload_n 0, 1) := by decide +kernel
theorem d_Player_compares_1 : decode prog_6_method_10_code 1 = .ok (.tableswitch 90 0 4 #[35, 46, 57, 68, 79], 35) := by decide +kernel
theorem d_Player_compares_36 : decode prog_6_method_10_code 36 = .ok (.iload_n 1, 1) := by decide +kernel
theorem d_Player_compares_37 : decode prog_6_method_10_code 37 = .ok (.iload_n 2, 1) := by decide +kernel
theorem d_Player_compares_38 : decode prog_6_method_10_code 38 = .ok (.if_icmp .ne 7, 3) := by decide +kernel
theorem d_Player_compares_41 : decode prog_6_method_10_code 41 = .ok (.iconst 1, 1) := by decide +kernel
theorem d_Player_compares_42 : decode prog_6_method_10_code 42 = .ok (.goto 4, 3) := by decide +kernel
theorem d_Player_compares_45 : decode prog_6_method_10_code 45 = .ok (.iconst 0, 1) := by decide +kernel
theorem d_Player_compares_46 : decode prog_6_method_10_code 46 = .ok (.ireturn, 1) := by decide +kernel
theorem d_Player_compares_47 : decode prog_6_method_10_code 47 = .ok (.iload_n 1, 1) := by decide +kernel
theorem d_Player_compares_48 : decode prog_6_method_10_code 48 = .ok (.iload_n 2, 1) := by decide +kernel
theorem d_Player_compares_49 : decode prog_6_method_10_code 49 = .ok (.if_icmp .eq 7, 3) := by decide +kernel
theorem d_Player_compares_52 : decode prog_6_method_10_code 52 = .ok (.iconst 1, 1) := by decide +kernel
theorem d_Player_compares_53 : decode prog_6_method_10_code 53 = .ok (.goto 4, 3) := by decide +kernel
theorem d_Player_compares_56 : decode prog_6_method_10_code 56 = .ok (.iconst 0, 1) := by decide +kernel
theorem d_Player_compares_57 : decode prog_6_method_10_code 57 = .ok (.ireturn, 1) := by decide +kernel
theorem d_Player_compares_58 : decode prog_6_method_10_code 58 = .ok (.iload_n 1, 1) := by decide +kernel
theorem d_Player_compares_59 : decode prog_6_method_10_code 59 = .ok (.iload_n 2, 1) := by decide +kernel
theorem d_Player_compares_60 : decode prog_6_method_10_code 60 = .ok (.if_icmp .le 7, 3) := by decide +kernel
theorem d_Player_compares_63 : decode prog_6_method_10_code 63 = .ok (.iconst 1, 1) := by decide +kernel
theorem d_Player_compares_64 : decode prog_6_method_10_code 64 = .ok (.goto 4, 3) := by decide +kernel
theorem d_Player_compares_67 : decode prog_6_method_10_code 67 = .ok (.iconst 0, 1) := by decide +kernel
theorem d_Player_compares_68 : decode prog_6_method_10_code 68 = .ok (.ireturn, 1) := by decide +kernel
theorem d_Player_compares_69 : decode prog_6_method_10_code 69 = .ok (.iload_n 1, 1) := by decide +kernel
theorem d_Player_compares_70 : decode prog_6_method_10_code 70 = .ok (.iload_n 2, 1) := by decide +kernel
theorem d_Player_compares_71 : decode prog_6_method_10_code 71 = .ok (.if_icmp .lt 7, 3) := by decide +kernel
theorem d_Player_compares_74 : decode prog_6_method_10_code 74 = .ok (.iconst 1, 1) := by decide +kernel
theorem d_Player_compares_75 : decode prog_6_method_10_code 75 = .ok (.goto 4, 3) := by decide +kernel
theorem d_Player_compares_78 : decode prog_6_method_10_code 78 = .ok (.iconst 0, 1) := by decide +kernel
theorem d_Player_compares_79 : decode prog_6_method_10_code 79 = .ok (.ireturn, 1) := by decide +kernel
theorem d_Player_compares_80 : decode prog_6_method_10_code 80 = .ok (.iload_n 1, 1) := by decide +kernel
theorem d_Player_compares_81 : decode prog_6_method_10_code 81 = .ok (.iload_n 2, 1) := by decide +kernel
theorem d_Player_compares_82 : decode prog_6_method_10_code 82 = .ok (.if_icmp .ge 7, 3) := by decide +kernel
theorem d_Player_compares_85 : decode prog_6_method_10_code 85 = .ok (.iconst 1, 1) := by decide +kernel
theorem d_Player_compares_86 : decode prog_6_method_10_code 86 = .ok (.goto 4, 3) := by decide +kernel
theorem d_Player_compares_89 : decode prog_6_method_10_code 89 = .ok (.iconst 0, 1) := by decide +kernel
theorem d_Player_compares_90 : decode prog_6_method_10_code 90 = .ok (.ireturn, 1) := by decide +kernel
theorem d_Player_compares_91 : decode prog_6_method_10_code 91 = .ok (.iload_n 1, 1) := by decide +kernel
theorem d_Player_compares_92 : decode prog_6_method_10_code 92 = .ok (.iload_n 2, 1) := by decide +kernel
theorem d_Player_compares_93 : decode prog_6_method_10_code 93 = .ok (.if_icmp .gt 7, 3) := by decide +kernel
theorem d_Player_compares_96 : decode prog_6_method_10_code 96 = .ok (.iconst 1, 1) := by decide +kernel
theorem d_Player_compares_97 : decode prog_6_method_10_code 97 = .ok (.goto 4, 3) := by decide +kernel
theorem d_Player_compares_100 : decode prog_6_method_10_code 100 = .ok (.iconst 0, 1) := by decide +kernel
theorem d_Player_compares_101 : decode prog_6_method_10_code 101 = .ok (.ireturn, 1) := by decide +kernel
theorem d_Player_startOther_0 : decode prog_6_method_11_code 0 = .ok (.aload_n 0, 1) := by decide +kernel
theorem d_Player_startOther_1 : decode prog_6_method_11_code 1 = .ok (.invokevirtual 51, 3) := by decide +kernel
theorem d_Player_startOther_4 : decode prog_6_method_11_code 4 = .ok (.bipush 15, 2) := by decide +kernel
theorem d_Player_startOther_6 : decode prog_6_method_11_code 6 = .ok (.iand, 1) := by decide +kernel
theorem d_Player_startOther_7 : decode prog_6_method_11_code 7 = .ok (.istore_n 1, 1) := by decide +kernel
theorem d_Player_startOther_8 : decode prog_6_method_11_code 8 = .ok (.aload_n 0, 1) := by decide +kernel
theorem d_Player_startOther_9 : decode prog_6_method_11_code 9 = .ok (.getfield 24, 3) := by decide +kernel
theorem d_Player_startOther_12 : decode prog_6_method_11_code 12 = .ok (.iload_n 1, 1) := by decide +kernel
theorem d_Player_startOther_13 : decode prog_6_method_11_code 13 = .ok (.aaload, 1) := by decide +kernel
theorem d_Player_startOther_14 : decode prog_6_method_11_code 14 = .ok (.aload_n 0, 1) := by decide +kernel
theorem d_Player_startOther_15 : decode prog_6_method_11_code 15 = .ok (.invokevirtual 59, 3) := by decide +kernel
theorem d_Player_startOther_18 : decode prog_6_method_11_code 18 = .ok (.putfield 118, 3) := by decide +kernel
theorem d_Player_startOther_21 : decode prog_6_method_11_code 21 = .ok (.return_, 1) := by decide +kernel
theorem d_Player_askOfEach_0 : decode prog_6_method_12_code 0 = .ok (.aload_n 0, 1) := by decide +kernel
theorem d_Player_askOfEach_1 : decode prog_6_method_12_code 1 = .ok (.invokevirtual 51, 3) := by decide +kernel
theorem d_Player_askOfEach_4 : decode prog_6_method_12_code 4 = .ok (.bipush 15, 2) := by decide +kernel
theorem d_Player_askOfEach_6 : decode prog_6_method_12_code 6 = .ok (.iand, 1) := by decide +kernel
theorem d_Player_askOfEach_7 : decode prog_6_method_12_code 7 = .ok (.istore_n 2, 1) := by decide +kernel
theorem d_Player_askOfEach_8 : decode prog_6_method_12_code 8 = .ok (.aload_n 0, 1) := by decide +kernel
theorem d_Player_askOfEach_9 : decode prog_6_method_12_code 9 = .ok (.invokevirtual 51, 3) := by decide +kernel
theorem d_Player_askOfEach_12 : decode prog_6_method_12_code 12 = .ok (.bipush 15, 2) := by decide +kernel
theorem d_Player_askOfEach_14 : decode prog_6_method_12_code 14 = .ok (.iand, 1) := by decide +kernel
theorem d_Player_askOfEach_15 : decode prog_6_method_12_code 15 = .ok (.istore_n 3, 1) := by decide +kernel
theorem d_Player_askOfEach_16 : decode prog_6_method_12_code 16 = .ok (.aload_n 0, 1) := by decide +kernel
theorem d_Player_askOfEach_17 : decode prog_6_method_12_code 17 = .ok (.invokevirtual 51, 3) := by decide +kernel
theorem d_Player_askOfEach_20 : decode prog_6_method_12_code 20 = .ok (.istore 4, 2) := by decide +kernel
theorem d_Player_askOfEach_22 : decode prog_6_method_12_code 22 = .ok (.iload 4, 2) := by decide +kernel
theorem d_Player_askOfEach_24 : decode prog_6_method_12_code 24 = .ok (.iconst 2, 1) := by decide +kernel
theorem d_Player_askOfEach_25 : decode prog_6_method_12_code 25 = .ok (.if_icmp .le 10, 3) := by decide +kernel
theorem d_Player_askOfEach_28 : decode prog_6_method_12_code 28 = .ok (.aload_n 0, 1) := by decide +kernel
theorem d_Player_askOfEach_29 : decode prog_6_method_12_code 29 = .ok (.aload_n 1, 1) := by decide +kernel
theorem d_Player_askOfEach_30 : decode prog_6_method_12_code 30 = .ok (.iconst 4, 1) := by decide +kernel
theorem d_Player_askOfEach_31 : decode prog_6_method_12_code 31 = .ok (.invokevirtual 89, 3) := by decide +kernel
theorem d_Player_askOfEach_34 : decode prog_6_method_12_code 34 = .ok (.return_, 1) := by decide +kernel
theorem d_Player_askOfEach_35 : decode prog_6_method_12_code 35 = .ok (.iload_n 2, 1) := by decide +kernel
theorem d_Player_askOfEach_36 : decode prog_6_method_12_code 36 = .ok (.istore 5, 2) := by decide +kernel
theorem d_Player_askOfEach_38 : decode prog_6_method_12_code 38 = .ok (.iload 5, 2) := by decide +kernel
theorem d_Player_askOfEach_40 : decode prog_6_method_12_code 40 = .ok (.iload_n 3, 1) := by decide +kernel
theorem d_Player_askOfEach_41 : decode prog_6_method_12_code 41 = .ok (.if_icmp .gt 41, 3) := by decide +kernel
theorem d_Player_askOfEach_44 : decode prog_6_method_12_code 44 = .ok (.iload 4, 2) := by decide +kernel
theorem d_Player_askOfEach_46 : decode prog_6_method_12_code 46 = .ok (.iconst 2, 1) := by decide +kernel
theorem d_Player_askOfEach_47 : decode prog_6_method_12_code 47 = .ok (.if_icmp .ne 17, 3) := by decide +kernel
theorem d_Player_askOfEach_50 : decode prog_6_method_12_code 50 = .ok (.aload_n 0, 1) := by decide +kernel
theorem d_Player_askOfEach_51 : decode prog_6_method_12_code 51 = .ok (.getfield 24, 3) := by decide +kernel
theorem d_Player_askOfEach_54 : decode prog_6_method_12_code 54 = .ok (.iload 5, 2) := by decide +kernel
theorem d_Player_askOfEach_56 : decode prog_6_method_12_code 56 = .ok (.aaload, 1) := by decide +kernel
theorem d_Player_askOfEach_57 : decode prog_6_method_12_code 57 = .ok (.iconst (-1), 1) := by decide +kernel
theorem d_Player_askOfEach_58 : decode prog_6_method_12_code 58 = .ok (.putfield 118, 3) := by decide +kernel
theorem d_Player_askOfEach_61 : decode prog_6_method_12_code 61 = .ok (.goto 15, 3) := by decide +kernel
theorem d_Player_askOfEach_64 : decode prog_6_method_12_code 64 = .ok (.aload_n 0, 1) := by decide +kernel
theorem d_Player_askOfEach_65 : decode prog_6_method_12_code 65 = .ok (.getfield 24, 3) := by decide +kernel
theorem d_Player_askOfEach_68 : decode prog_6_method_12_code 68 = .ok (.iload 5, 2) := by decide +kernel
theorem d_Player_askOfEach_70 : decode prog_6_method_12_code 70 = .ok (.aaload, 1) := by decide +kernel
theorem d_Player_askOfEach_71 : decode prog_6_method_12_code 71 = .ok (.iload 4, 2) := by decide +kernel
theorem d_Player_askOfEach_73 : decode prog_6_method_12_code 73 = .ok (.putfield 121, 3) := by decide +kernel
theorem d_Player_askOfEach_76 : decode prog_6_method_12_code 76 = .ok (.iinc 5 1, 3) := by decide +kernel
theorem d_Player_askOfEach_79 : decode prog_6_method_12_code 79 = .ok (.goto (-41), 3) := by decide +kernel
theorem d_Player_askOfEach_82 : decode prog_6_method_12_code 82 = .ok (.return_, 1) := by decide +kernel
theorem d_Player_handlePages_0 : decode prog_6_method_13_code 0 = .ok (.aload_n 0, 1) := by decide +kernel
theorem d_Player_handlePages_1 : decode prog_6_method_13_code 1 = .ok (.getfield 31, 3) := by decide +kernel
theorem d_Player_handlePages_4 : decode prog_6_method_13_code 4 = .ok (.getfield 124, 3) := by decide +kernel
theorem d_Player_handlePages_7 : decode prog_6_method_13_code 7 = .ok (.astore_n 2, 1) := by decide +kernel
theorem d_Player_handlePages_8 : decode prog_6_method_13_code 8 = .ok (.aload_n 2, 1) := by decide +kernel
theorem d_Player_handlePages_9 : decode prog_6_method_13_code 9 = .ok (.aload_n 0, 1) := by decide +kernel
theorem d_Player_handlePages_10 : decode prog_6_method_13_code 10 = .ok (.invokevirtual 51, 3) := by decide +kernel
theorem d_Player_handlePages_13 : decode prog_6_method_13_code 13 = .ok (.invokevirtual 128, 3) := by decide +kernel
theorem d_Player_handlePages_16 : decode prog_6_method_13_code 16 = .ok (.istore_n 3, 1) := by decide +kernel
theorem d_Player_handlePages_17 : decode prog_6_method_13_code 17 = .ok (.iload_n 1, 1) := by decide +kernel
theorem d_Player_handlePages_18 : decode prog_6_method_13_code 18 = .ok (.tableswitch 65 18 20 #[26, 34, 49], 26) := by decide +kernel
theorem d_Player_handlePages_44 : decode prog_6_method_13_code 44 = .ok (.aload_n 2, 1) := by decide +kernel
theorem d_Player_handlePages_45 : decode prog_6_method_13_code 45 = .ok (.iload_n 3, 1) := by decide +kernel
theorem d_Player_handlePages_46 : decode prog_6_method_13_code 46 = .ok (.putfield 133, 3) := by decide +kernel
theorem d_Player_handlePages_49 : decode prog_6_method_13_code 49 = .ok (.goto 39, 3) := by decide +kernel
theorem d_Player_handlePages_52 : decode prog_6_method_13_code 52 = .ok (.aload_n 2, 1) := by decide +kernel
theorem d_Player_handlePages_53 : decode prog_6_method_13_code 53 = .ok (.iload_n 3, 1) := by decide +kernel
theorem d_Player_handlePages_54 : decode prog_6_method_13_code 54 = .ok (.aload_n 0, 1) := by decide +kernel
theorem d_Player_handlePages_55 : decode prog_6_method_13_code 55 = .ok (.invokevirtual 51, 3) := by decide +kernel
theorem d_Player_handlePages_58 : decode prog_6_method_13_code 58 = .ok (.bipush 15, 2) := by decide +kernel
theorem d_Player_handlePages_60 : decode prog_6_method_13_code 60 = .ok (.iand, 1) := by decide +kernel
theorem d_Player_handlePages_61 : decode prog_6_method_13_code 61 = .ok (.invokevirtual 136, 3) := by decide +kernel
theorem d_Player_handlePages_64 : decode prog_6_method_13_code 64 = .ok (.goto 24, 3) := by decide +kernel
theorem d_Player_handlePages_67 : decode prog_6_method_13_code 67 = .ok (.aload_n 2, 1) := by decide +kernel
theorem d_Player_handlePages_68 : decode prog_6_method_13_code 68 = .ok (.iload_n 3, 1) := by decide +kernel
theorem d_Player_handlePages_69 : decode prog_6_method_13_code 69 = .ok (.aload_n 2, 1) := by decide +kernel
theorem d_Player_handlePages_70 : decode prog_6_method_13_code 70 = .ok (.aload_n 0, 1) := by decide +kernel
theorem d_Player_handlePages_71 : decode prog_6_method_13_code 71 = .ok (.invokevirtual 51, 3) := by decide +kernel
theorem d_Player_handlePages_74 : decode prog_6_method_13_code 74 = .ok (.invokevirtual 128, 3) := by decide +kernel
theorem d_Player_handlePages_77 : decode prog_6_method_13_code 77 = .ok (.invokevirtual 139, 3) := by decide +kernel
theorem d_Player_handlePages_80 : decode prog_6_method_13_code 80 = .ok (.goto 8, 3) := by decide +kernel
theorem d_Player_handlePages_83 : decode prog_6_method_13_code 83 = .ok (.aload_n 2, 1) := by decide +kernel
theorem d_Player_handlePages_84 : decode prog_6_method_13_code 84 = .ok (.iload_n 3, 1) := by decide +kernel
theorem d_Player_handlePages_85 : decode prog_6_method_13_code 85 = .ok (.putfield 142, 3) := by decide +kernel
theorem d_Player_handlePages_88 : decode prog_6_method_13_code 88 = .ok (.return_, 1) := by decide +kernel
theorem d_Player_draw_0 : decode prog_6_method_14_code 0 = .ok (.aload_n 0, 1) := by decide +kernel
theorem d_Player_draw_1 : decode prog_6_method_14_code 1 = .ok (.invokevirtual 59, 3) := by decide +kernel
theorem d_Player_draw_4 : decode prog_6_method_14_code 4 = .ok (.istore_n 1, 1) := by decide +kernel
theorem d_Player_draw_5 : decode prog_6_method_14_code 5 = .ok (.aload_n 0, 1) := by decide +kernel
theorem d_Player_draw_6 : decode prog_6_method_14_code 6 = .ok (.getfield 18, 3) := by decide +kernel
theorem d_Player_draw_9 : decode prog_6_method_14_code 9 = .ok (.aload_n 0, 1) := by decide +kernel
theorem d_Player_draw_10 : decode prog_6_method_14_code 10 = .ok (.invokevirtual 93, 3) := by decide +kernel
theorem d_Player_draw_13 : decode prog_6_method_14_code 13 = .ok (.iaload, 1) := by decide +kernel
theorem d_Player_draw_14 : decode prog_6_method_14_code 14 = .ok (.istore_n 2, 1) := by decide +kernel
theorem d_Player_draw_15 : decode prog_6_method_14_code 15 = .ok (.aload_n 0, 1) := by decide +kernel
theorem d_Player_draw_16 : decode prog_6_method_14_code 16 = .ok (.getfield 18, 3) := by decide +kernel
theorem d_Player_draw_19 : decode prog_6_method_14_code 19 = .ok (.aload_n 0, 1) := by decide +kernel
theorem d_Player_draw_20 : decode prog_6_method_14_code 20 = .ok (.invokevirtual 93, 3) := by decide +kernel
theorem d_Player_draw_23 : decode prog_6_method_14_code 23 = .ok (.iaload, 1) := by decide +kernel
theorem d_Player_draw_24 : decode prog_6_method_14_code 24 = .ok (.istore_n 3, 1) := by decide +kernel
theorem d_Player_draw_25 : decode prog_6_method_14_code 25 = .ok (.aload_n 0, 1) := by decide +kernel
theorem d_Player_draw_26 : decode prog_6_method_14_code 26 = .ok (.invokevirtual 51, 3) := by decide +kernel
theorem d_Player_draw_29 : decode prog_6_method_14_code 29 = .ok (.istore 4, 2) := by decide +kernel
theorem d_Player_draw_31 : decode prog_6_method_14_code 31 = .ok (.iload 4, 2) := by decide +kernel
theorem d_Player_draw_33 : decode prog_6_method_14_code 33 = .ok (.sipush 128, 3) := by decide +kernel
theorem d_Player_draw_36 : decode prog_6_method_14_code 36 = .ok (.if_icmp .ge 16, 3) := by decide +kernel
theorem d_Player_draw_39 : decode prog_6_method_14_code 39 = .ok (.aload_n 0, 1) := by decide +kernel
theorem d_Player_draw_40 : decode prog_6_method_14_code 40 = .ok (.getfield 18, 3) := by decide +kernel
theorem d_Player_draw_43 : decode prog_6_method_14_code 43 = .ok (.iload 4, 2) := by decide +kernel
theorem d_Player_draw_45 : decode prog_6_method_14_code 45 = .ok (.bipush 31, 2) := by decide +kernel
theorem d_Player_draw_47 : decode prog_6_method_14_code 47 = .ok (.iand, 1) := by decide +kernel
theorem d_Player_draw_48 : decode prog_6_method_14_code 48 = .ok (.iaload, 1) := by decide +kernel
theorem d_Player_draw_49 : decode prog_6_method_14_code 49 = .ok (.goto 5, 3) := by decide +kernel
theorem d_Player_draw_52 : decode prog_6_method_14_code 52 = .ok (.bipush 64, 2) := by decide +kernel
theorem d_Player_draw_54 : decode prog_6_method_14_code 54 = .ok (.istore 5, 2) := by decide +kernel
theorem d_Player_draw_56 : decode prog_6_method_14_code 56 = .ok (.aload_n 0, 1) := by decide +kernel
theorem d_Player_draw_57 : decode prog_6_method_14_code 57 = .ok (.getfield 31, 3) := by decide +kernel
theorem d_Player_draw_60 : decode prog_6_method_14_code 60 = .ok (.iconst 0, 1) := by decide +kernel
theorem d_Player_draw_61 : decode prog_6_method_14_code 61 = .ok (.putfield 145, 3) := by decide +kernel
theorem d_Player_draw_64 : decode prog_6_method_14_code 64 = .ok (.aload_n 0, 1) := by decide +kernel
theorem d_Player_draw_65 : decode prog_6_method_14_code 65 = .ok (.getfield 31, 3) := by decide +kernel
theorem d_Player_draw_68 : decode prog_6_method_14_code 68 = .ok (.iload_n 1, 1) := by decide +kernel
theorem d_Player_draw_69 : decode prog_6_method_14_code 69 = .ok (.iload_n 2, 1) := by decide +kernel
theorem d_Player_draw_70 : decode prog_6_method_14_code 70 = .ok (.iload_n 3, 1) := by decide +kernel
theorem d_Player_draw_71 : decode prog_6_method_14_code 71 = .ok (.iload 5, 2) := by decide +kernel
theorem d_Player_draw_73 : decode prog_6_method_14_code 73 = .ok (.iconst (-1), 1) := by decide +kernel
theorem d_Player_draw_74 : decode prog_6_method_14_code 74 = .ok (.iconst 0, 1) := by decide +kernel
theorem d_Player_draw_75 : decode prog_6_method_14_code 75 = .ok (.invokevirtual 148, 3) := by decide +kernel
theorem d_Player_draw_78 : decode prog_6_method_14_code 78 = .ok (.return_, 1) := by decide +kernel
theorem d_Player_fail_0 : decode prog_6_method_15_code 0 = .ok (.aload_n 1, 1) := by decide +kernel
theorem d_Player_fail_1 : decode prog_6_method_15_code 1 = .ok (.iload_n 2, 1) := by decide +kernel
theorem d_Player_fail_2 : decode prog_6_method_15_code 2 = .ok (.putfield 152, 3) := by decide +kernel
theorem d_Player_fail_5 : decode prog_6_method_15_code 5 = .ok (.aload_n 0, 1) := by decide +kernel
theorem d_Player_fail_6 : decode prog_6_method_15_code 6 = .ok (.invokevirtual 74, 3) := by decide +kernel
theorem d_Player_fail_9 : decode prog_6_method_15_code 9 = .ok (.return_, 1) := by decide +kernel
theorem d_Player_end_0 : decode prog_6_method_16_code 0 = .ok (.aload_n 0, 1) := by decide +kernel
theorem d_Player_end_1 : decode prog_6_method_16_code 1 = .ok (.iconst (-1), 1) := by decide +kernel
theorem d_Player_end_2 : decode prog_6_method_16_code 2 = .ok (.putfield 35, 3) := by decide +kernel
theorem d_Player_end_5 : decode prog_6_method_16_code 5 = .ok (.aload_n 0, 1) := by decide +kernel
theorem d_Player_end_6 : decode prog_6_method_16_code 6 = .ok (.iconst 0, 1) := by decide +kernel
theorem d_Player_end_7 : decode prog_6_method_16_code 7 = .ok (.putfield 39, 3) := by decide +kernel
theorem d_Player_end_10 : decode prog_6_method_16_code 10 = .ok (.return_, 1) := by decide +kernel
theorem d_Player_store_0 : decode prog_6_method_17_code 0 = .ok (.aload_n 0, 1) := by decide +kernel
theorem d_Player_store_1 : decode prog_6_method_17_code 1 = .ok (.getfield 18, 3) := by decide +kernel
theorem d_Player_store_4 : decode prog_6_method_17_code 4 = .ok (.iload_n 1, 1) := by decide +kernel
theorem d_Player_store_5 : decode prog_6_method_17_code 5 = .ok (.iload_n 2, 1) := by decide +kernel
theorem d_Player_store_6 : decode prog_6_method_17_code 6 = .ok (.i2s, 1) := by decide +kernel
theorem d_Player_store_7 : decode prog_6_method_17_code 7 = .ok (.iastore, 1) := by decide +kernel
theorem d_Player_store_8 : decode prog_6_method_17_code 8 = .ok (.return_, 1) := by decide +kernel
theorem d_Player_nextByte_0 : decode prog_6_method_18_code 0 = .ok (.aload_n 0, 1) := by decide +kernel
theorem d_Player_nextByte_1 : decode prog_6_method_18_code 1 = .ok (.getfield 12, 3) := by decide +kernel
theorem d_Player_nextByte_4 : decode prog_6_method_18_code 4 = .ok (.aload_n 0, 1) := by decide +kernel
theorem d_Player_nextByte_5 : decode prog_6_method_18_code 5 = .ok (.getfield 35, 3) := by decide +kernel
theorem d_Player_nextByte_8 : decode prog_6_method_18_code 8 = .ok (.invokevirtual 155, 3) := by decide +kernel
theorem d_Player_nextByte_11 : decode prog_6_method_18_code 11 = .ok (.istore_n 1, 1) := by decide +kernel
theorem d_Player_nextByte_12 : decode prog_6_method_18_code 12 = .ok (.aload_n 0, 1) := by decide +kernel
theorem d_Player_nextByte_13 : decode prog_6_method_18_code 13 = .ok (.aload_n 0, 1) := by decide +kernel
theorem d_Player_nextByte_14 : decode prog_6_method_18_code 14 = .ok (.getfield 35, 3) := by decide +kernel
theorem d_Player_nextByte_17 : decode prog_6_method_18_code 17 = .ok (.iconst 1, 1) := by decide +kernel
theorem d_Player_nextByte_18 : decode prog_6_method_18_code 18 = .ok (.iadd, 1) := by decide +kernel
theorem d_Player_nextByte_19 : decode prog_6_method_18_code 19 = .ok (.sipush 1023, 3) := by decide +kernel
theorem d_Player_nextByte_22 : decode prog_6_method_18_code 22 = .ok (.iand, 1) := by decide +kernel
theorem d_Player_nextByte_23 : decode prog_6_method_18_code 23 = .ok (.putfield 35, 3) := by decide +kernel
theorem d_Player_nextByte_26 : decode prog_6_method_18_code 26 = .ok (.iload_n 1, 1) := by decide +kernel
theorem d_Player_nextByte_27 : decode prog_6_method_18_code 27 = .ok (.ireturn, 1) := by decide +kernel
theorem d_Player_nextPair_0 : decode prog_6_method_19_code 0 = .ok (.aload_n 0, 1) := by decide +kernel
theorem d_Player_nextPair_1 : decode prog_6_method_19_code 1 = .ok (.getfield 12, 3) := by decide +kernel
theorem d_Player_nextPair_4 : decode prog_6_method_19_code 4 = .ok (.aload_n 0, 1) := by decide +kernel
theorem d_Player_nextPair_5 : decode prog_6_method_19_code 5 = .ok (.getfield 35, 3) := by decide +kernel
theorem d_Player_nextPair_8 : decode prog_6_method_19_code 8 = .ok (.invokevirtual 158, 3) := by decide +kernel
theorem d_Player_nextPair_11 : decode prog_6_method_19_code 11 = .ok (.istore_n 1, 1) := by decide +kernel
theorem d_Player_nextPair_12 : decode prog_6_method_19_code 12 = .ok (.aload_n 0, 1) := by decide +kernel
theorem d_Player_nextPair_13 : decode prog_6_method_19_code 13 = .ok (.aload_n 0, 1) := by decide +kernel
theorem d_Player_nextPair_14 : decode prog_6_method_19_code 14 = .ok (.getfield 35, 3) := by decide +kernel
theorem d_Player_nextPair_17 : decode prog_6_method_19_code 17 = .ok (.iconst 2, 1) := by decide +kernel
theorem d_Player_nextPair_18 : decode prog_6_method_19_code 18 = .ok (.iadd, 1) := by decide +kernel
theorem d_Player_nextPair_19 : decode prog_6_method_19_code 19 = .ok (.sipush 1023, 3) := by decide +kernel
theorem d_Player_nextPair_22 : decode prog_6_method_19_code 22 = .ok (.iand, 1) := by decide +kernel
theorem d_Player_nextPair_23 : decode prog_6_method_19_code 23 = .ok (.putfield 35, 3) := by decide +kernel
theorem d_Player_nextPair_26 : decode prog_6_method_19_code 26 = .ok (.iload_n 1, 1) := by decide +kernel
theorem d_Player_nextPair_27 : decode prog_6_method_19_code 27 = .ok (.ireturn, 1) := by decide +kernel
theorem d_Player_nextVariable_0 : decode prog_6_method_20_code 0 = .ok (.aload_n 0, 1) := by decide +kernel
theorem d_Player_nextVariable_1 : decode prog_6_method_20_code 1 = .ok (.invokevirtual 51, 3) := by decide +kernel
theorem d_Player_nextVariable_4 : decode prog_6_method_20_code 4 = .ok (.bipush 31, 2) := by decide +kernel
theorem d_Player_nextVariable_6 : decode prog_6_method_20_code 6 = .ok (.iand, 1) := by decide +kernel
theorem d_Player_nextVariable_7 : decode prog_6_method_20_code 7 = .ok (.ireturn, 1) := by decide +kernel
theorem d_Player_nextNumber_0 : decode prog_6_method_21_code 0 = .ok (.aload_n 0, 1) := by decide +kernel
theorem d_Player_nextNumber_1 : decode prog_6_method_21_code 1 = .ok (.invokevirtual 161, 3) := by decide +kernel
theorem d_Player_nextNumber_4 : decode prog_6_method_21_code 4 = .ok (.i2s, 1) := by decide +kernel
theorem d_Player_nextNumber_5 : decode prog_6_method_21_code 5 = .ok (.ireturn, 1) := by decide +kernel
theorem d_Player_nextAddress_0 : decode prog_6_method_22_code 0 = .ok (.aload_n 0, 1) := by decide +kernel
theorem d_Player_nextAddress_1 : decode prog_6_method_22_code 1 = .ok (.invokevirtual 161, 3) := by decide +kernel
theorem d_Player_nextAddress_4 : decode prog_6_method_22_code 4 = .ok (.sipush 1023, 3) := by decide +kernel
theorem d_Player_nextAddress_7 : decode prog_6_method_22_code 7 = .ok (.iand, 1) := by decide +kernel
theorem d_Player_nextAddress_8 : decode prog_6_method_22_code 8 = .ok (.ireturn, 1) := by decide +kernel
theorem d_Math_fdI_0 : decode prog_9_method_47_code 0 = .ok (.iload_n 0, 1) := by decide +kernel
theorem d_Math_fdI_1 : decode prog_9_method_47_code 1 = .ok (.iload_n 1, 1) := by decide +kernel
theorem d_Math_fdI_2 : decode prog_9_method_47_code 2 = .ok (.idiv, 1) := by decide +kernel
theorem d_Math_fdI_3 : decode prog_9_method_47_code 3 = .ok (.istore_n 2, 1) := by decide +kernel
theorem d_Math_fdI_4 : decode prog_9_method_47_code 4 = .ok (.iload_n 0, 1) := by decide +kernel
theorem d_Math_fdI_5 : decode prog_9_method_47_code 5 = .ok (.iload_n 1, 1) := by decide +kernel
theorem d_Math_fdI_6 : decode prog_9_method_47_code 6 = .ok (.ixor, 1) := by decide +kernel
theorem d_Math_fdI_7 : decode prog_9_method_47_code 7 = .ok (.ifCond .ge 14, 3) := by decide +kernel
theorem d_Math_fdI_10 : decode prog_9_method_47_code 10 = .ok (.iload_n 2, 1) := by decide +kernel
theorem d_Math_fdI_11 : decode prog_9_method_47_code 11 = .ok (.iload_n 1, 1) := by decide +kernel
theorem d_Math_fdI_12 : decode prog_9_method_47_code 12 = .ok (.imul, 1) := by decide +kernel
theorem d_Math_fdI_13 : decode prog_9_method_47_code 13 = .ok (.iload_n 0, 1) := by decide +kernel
theorem d_Math_fdI_14 : decode prog_9_method_47_code 14 = .ok (.if_icmp .eq 7, 3) := by decide +kernel
theorem d_Math_fdI_17 : decode prog_9_method_47_code 17 = .ok (.iload_n 2, 1) := by decide +kernel
theorem d_Math_fdI_18 : decode prog_9_method_47_code 18 = .ok (.iconst 1, 1) := by decide +kernel
theorem d_Math_fdI_19 : decode prog_9_method_47_code 19 = .ok (.isub, 1) := by decide +kernel
theorem d_Math_fdI_20 : decode prog_9_method_47_code 20 = .ok (.ireturn, 1) := by decide +kernel
theorem d_Math_fdI_21 : decode prog_9_method_47_code 21 = .ok (.iload_n 2, 1) := by decide +kernel
theorem d_Math_fdI_22 : decode prog_9_method_47_code 22 = .ok (.ireturn, 1) := by decide +kernel
theorem d_Math_fdJ_0 : decode prog_9_method_49_code 0 = .ok (.lload_n 0, 1) := by decide +kernel
theorem d_Math_fdJ_1 : decode prog_9_method_49_code 1 = .ok (.lload_n 2, 1) := by decide +kernel
theorem d_Math_fdJ_2 : decode prog_9_method_49_code 2 = .ok (.ldiv, 1) := by decide +kernel
theorem d_Math_fdJ_3 : decode prog_9_method_49_code 3 = .ok (.lstore 4, 2) := by decide +kernel
theorem d_Math_fdJ_5 : decode prog_9_method_49_code 5 = .ok (.lload_n 0, 1) := by decide +kernel
theorem d_Math_fdJ_6 : decode prog_9_method_49_code 6 = .ok (.lload_n 2, 1) := by decide +kernel
theorem d_Math_fdJ_7 : decode prog_9_method_49_code 7 = .ok (.lxor, 1) := by decide +kernel
theorem d_Math_fdJ_8 : decode prog_9_method_49_code 8 = .ok (.lconst 0, 1) := by decide +kernel
theorem d_Math_fdJ_9 : decode prog_9_method_49_code 9 = .ok (.lcmp, 1) := by decide +kernel
theorem d_Math_fdJ_10 : decode prog_9_method_49_code 10 = .ok (.ifCond .ge 17, 3) := by decide +kernel
theorem d_Math_fdJ_13 : decode prog_9_method_49_code 13 = .ok (.lload 4, 2) := by decide +kernel
theorem d_Math_fdJ_15 : decode prog_9_method_49_code 15 = .ok (.lload_n 2, 1) := by decide +kernel
theorem d_Math_fdJ_16 : decode prog_9_method_49_code 16 = .ok (.lmul, 1) := by decide +kernel
theorem d_Math_fdJ_17 : decode prog_9_method_49_code 17 = .ok (.lload_n 0, 1) := by decide +kernel
theorem d_Math_fdJ_18 : decode prog_9_method_49_code 18 = .ok (.lcmp, 1) := by decide +kernel
theorem d_Math_fdJ_19 : decode prog_9_method_49_code 19 = .ok (.ifCond .eq 8, 3) := by decide +kernel
theorem d_Math_fdJ_22 : decode prog_9_method_49_code 22 = .ok (.lload 4, 2) := by decide +kernel
theorem d_Math_fdJ_24 : decode prog_9_method_49_code 24 = .ok (.lconst 1, 1) := by decide +kernel
theorem d_Math_fdJ_25 : decode prog_9_method_49_code 25 = .ok (.lsub, 1) := by decide +kernel
theorem d_Math_fdJ_26 : decode prog_9_method_49_code 26 = .ok (.lreturn, 1) := by decide +kernel
theorem d_Math_fdJ_27 : decode prog_9_method_49_code 27 = .ok (.lload 4, 2) := by decide +kernel
theorem d_Math_fdJ_29 : decode prog_9_method_49_code 29 = .ok (.lreturn, 1) := by decide +kernel
theorem d_Math_max_0 : decode prog_9_method_65_code 0 = .ok (.iload_n 0, 1) := by decide +kernel
theorem d_Math_max_1 : decode prog_9_method_65_code 1 = .ok (.iload_n 1, 1) := by decide +kernel
theorem d_Math_max_2 : decode prog_9_method_65_code 2 = .ok (.if_icmp .lt 7, 3) := by decide +kernel
theorem d_Math_max_5 : decode prog_9_method_65_code 5 = .ok (.iload_n 0, 1) := by decide +kernel
theorem d_Math_max_6 : decode prog_9_method_65_code 6 = .ok (.goto 4, 3) := by decide +kernel
theorem d_Math_max_9 : decode prog_9_method_65_code 9 = .ok (.iload_n 1, 1) := by decide +kernel
theorem d_Math_max_10 : decode prog_9_method_65_code 10 = .ok (.ireturn, 1) := by decide +kernel
theorem d_Math_min_0 : decode prog_9_method_69_code 0 = .ok (.iload_n 0, 1) := by decide +kernel
theorem d_Math_min_1 : decode prog_9_method_69_code 1 = .ok (.iload_n 1, 1) := by decide +kernel
theorem d_Math_min_2 : decode prog_9_method_69_code 2 = .ok (.if_icmp .gt 7, 3) := by decide +kernel
theorem d_Math_min_5 : decode prog_9_method_69_code 5 = .ok (.iload_n 0, 1) := by decide +kernel
theorem d_Math_min_6 : decode prog_9_method_69_code 6 = .ok (.goto 4, 3) := by decide +kernel
theorem d_Math_min_9 : decode prog_9_method_69_code 9 = .ok (.iload_n 1, 1) := by decide +kernel
theorem d_Math_min_10 : decode prog_9_method_69_code 10 = .ok (.ireturn, 1) := by decide +kernel
theorem d_Arrays_fill_0 : decode prog_11_method_110_code 0 = .ok (.aload_n 0, 1) := by decide +kernel
theorem d_Arrays_fill_1 : decode prog_11_method_110_code 1 = .ok (.arraylength, 1) := by decide +kernel
theorem d_Arrays_fill_2 : decode prog_11_method_110_code 2 = .ok (.iload_n 1, 1) := by decide +kernel
theorem d_Arrays_fill_3 : decode prog_11_method_110_code 3 = .ok (.iload_n 2, 1) := by decide +kernel
theorem d_Arrays_fill_4 : decode prog_11_method_110_code 4 = .ok (.invokestatic 13, 3) := by decide +kernel
theorem d_Arrays_fill_7 : decode prog_11_method_110_code 7 = .ok (.iload_n 1, 1) := by decide +kernel
theorem d_Arrays_fill_8 : decode prog_11_method_110_code 8 = .ok (.istore 4, 2) := by decide +kernel
theorem d_Arrays_fill_10 : decode prog_11_method_110_code 10 = .ok (.iload 4, 2) := by decide +kernel
theorem d_Arrays_fill_12 : decode prog_11_method_110_code 12 = .ok (.iload_n 2, 1) := by decide +kernel
theorem d_Arrays_fill_13 : decode prog_11_method_110_code 13 = .ok (.if_icmp .ge 14, 3) := by decide +kernel
theorem d_Arrays_fill_16 : decode prog_11_method_110_code 16 = .ok (.aload_n 0, 1) := by decide +kernel
theorem d_Arrays_fill_17 : decode prog_11_method_110_code 17 = .ok (.iload 4, 2) := by decide +kernel
theorem d_Arrays_fill_19 : decode prog_11_method_110_code 19 = .ok (.iload_n 3, 1) := by decide +kernel
theorem d_Arrays_fill_20 : decode prog_11_method_110_code 20 = .ok (.bastore, 1) := by decide +kernel
theorem d_Arrays_fill_21 : decode prog_11_method_110_code 21 = .ok (.iinc 4 1, 3) := by decide +kernel
theorem d_Arrays_fill_24 : decode prog_11_method_110_code 24 = .ok (.goto (-14), 3) := by decide +kernel
theorem d_Arrays_fill_27 : decode prog_11_method_110_code 27 = .ok (.return_, 1) := by decide +kernel
theorem d_Arrays_rangeCheck_0 : decode prog_11_method_30_code 0 = .ok (.iload_n 1, 1) := by decide +kernel
theorem d_Arrays_rangeCheck_1 : decode prog_11_method_30_code 1 = .ok (.iload_n 2, 1) := by decide +kernel
theorem d_Arrays_rangeCheck_2 : decode prog_11_method_30_code 2 = .ok (.if_icmp .le 44, 3) := by decide +kernel
theorem d_Arrays_rangeCheck_5 : decode prog_11_method_30_code 5 = .ok (.new 43, 3) := by decide +kernel
theorem d_Arrays_rangeCheck_8 : decode prog_11_method_30_code 8 = .ok (.dup, 1) := by decide +kernel
theorem d_Arrays_rangeCheck_9 : decode prog_11_method_30_code 9 = .ok (.new 45, 3) := by decide +kernel
theorem d_Arrays_rangeCheck_12 : decode prog_11_method_30_code 12 = .ok (.dup, 1) := by decide +kernel
theorem d_Arrays_rangeCheck_13 : decode prog_11_method_30_code 13 = .ok (.invokespecial 47, 3) := by decide +kernel
theorem d_Arrays_rangeCheck_16 : decode prog_11_method_30_code 16 = .ok (.ldc 48, 2) := by decide +kernel
theorem d_Arrays_rangeCheck_18 : decode prog_11_method_30_code 18 = .ok (.invokevirtual 50, 3) := by decide +kernel
theorem d_Arrays_rangeCheck_21 : decode prog_11_method_30_code 21 = .ok (.iload_n 1, 1) := by decide +kernel
theorem d_Arrays_rangeCheck_22 : decode prog_11_method_30_code 22 = .ok (.invokevirtual 54, 3) := by decide +kernel
theorem d_Arrays_rangeCheck_25 : decode prog_11_method_30_code 25 = .ok (.ldc 57, 2) := by decide +kernel
theorem d_Arrays_rangeCheck_27 : decode prog_11_method_30_code 27 = .ok (.invokevirtual 50, 3) := by decide +kernel
theorem d_Arrays_rangeCheck_30 : decode prog_11_method_30_code 30 = .ok (.iload_n 2, 1) := by decide +kernel
theorem d_Arrays_rangeCheck_31 : decode prog_11_method_30_code 31 = .ok (.invokevirtual 54, 3) := by decide +kernel
theorem d_Arrays_rangeCheck_34 : decode prog_11_method_30_code 34 = .ok (.ldc 59, 2) := by decide +kernel
theorem d_Arrays_rangeCheck_36 : decode prog_11_method_30_code 36 = .ok (.invokevirtual 50, 3) := by decide +kernel
theorem d_Arrays_rangeCheck_39 : decode prog_11_method_30_code 39 = .ok (.invokevirtual 61, 3) := by decide +kernel
theorem d_Arrays_rangeCheck_42 : decode prog_11_method_30_code 42 = .ok (.invokespecial 65, 3) := by decide +kernel
theorem d_Arrays_rangeCheck_45 : decode prog_11_method_30_code 45 = .ok (.athrow, 1) := by decide +kernel
theorem d_Arrays_rangeCheck_46 : decode prog_11_method_30_code 46 = .ok (.iload_n 1, 1) := by decide +kernel
theorem d_Arrays_rangeCheck_47 : decode prog_11_method_30_code 47 = .ok (.ifCond .ge 12, 3) := by decide +kernel
theorem d_Arrays_rangeCheck_50 : decode prog_11_method_30_code 50 = .ok (.new 68, 3) := by decide +kernel
theorem d_Arrays_rangeCheck_53 : decode prog_11_method_30_code 53 = .ok (.dup, 1) := by decide +kernel
theorem d_Arrays_rangeCheck_54 : decode prog_11_method_30_code 54 = .ok (.iload_n 1, 1) := by decide +kernel
theorem d_Arrays_rangeCheck_55 : decode prog_11_method_30_code 55 = .ok (.invokespecial 70, 3) := by decide +kernel
theorem d_Arrays_rangeCheck_58 : decode prog_11_method_30_code 58 = .ok (.athrow, 1) := by decide +kernel
theorem d_Arrays_rangeCheck_59 : decode prog_11_method_30_code 59 = .ok (.iload_n 2, 1) := by decide +kernel
theorem d_Arrays_rangeCheck_60 : decode prog_11_method_30_code 60 = .ok (.iload_n 0, 1) := by decide +kernel
theorem d_Arrays_rangeCheck_61 : decode prog_11_method_30_code 61 = .ok (.if_icmp .le 12, 3) := by decide +kernel
theorem d_Arrays_rangeCheck_64 : decode prog_11_method_30_code 64 = .ok (.new 68, 3) := by decide +kernel
theorem d_Arrays_rangeCheck_67 : decode prog_11_method_30_code 67 = .ok (.dup, 1) := by decide +kernel
theorem d_Arrays_rangeCheck_68 : decode prog_11_method_30_code 68 = .ok (.iload_n 2, 1) := by decide +kernel
theorem d_Arrays_rangeCheck_69 : decode prog_11_method_30_code 69 = .ok (.invokespecial 70, 3) := by decide +kernel
theorem d_Arrays_rangeCheck_72 : decode prog_11_method_30_code 72 = .ok (.athrow, 1) := by decide +kernel
theorem d_Arrays_rangeCheck_73 : decode prog_11_method_30_code 73 = .ok (.return_, 1) := by decide +kernel
end
section
section
variable {l : Launch} {D : va_G} {cI cB cC cZ : ClassId} {ad : Nat → Nat}
def f_Bytes_read  (b : Nat) (S : gw_S) (a1 : Int32) : Int32 × gw_S := (((S (b + 1) ((a1 &&& (1023 : Int32)) : Int32).toNatClampNeg), S))
set_option maxHeartbeats 4000000 in
set_option maxRecDepth 100000 in
theorem c_Bytes_read (hJ : gw_J 46 ad)  {b : Nat} (hb : b = 2 ∨ b = 7) (S : gw_S) (a1 : Int32) : gw_M l y_Bytes_read prog_2_method_2_code 2 (some .int) gTs (gw_rm 0) D gCl (gTys cI cB cC cZ) 46 ad (cE ad cI cB cC) gw_rI [.ref (ad b), .int a1] S (f_Bytes_read b S a1) := by
  refine gw_start gTs_ok (plainFor_of_name (by decide)) hJ (Nat.le_of_ble_eq_true rfl) (fun X A F => ?_)
  refine gw_lve (lv' := [(0, .ref (ad b)), (1, .int a1)]) rfl ?_
  unfold f_Bytes_read
  refine gw_aload_n (pc := 0) F 0 d_Bytes_read_0 rfl rfl ?_
  refine cg_Bytes_bytes (pc := 1) F hb tw_31 d_Bytes_read_1 ?_
  refine gw_iload_n (pc := 4) F 1 d_Bytes_read_4 rfl rfl ?_
  refine gw_sipush (pc := 5) (v := (1023 : Int32)) F d_Bytes_read_5 (by decide) ?_
  refine gw_iand (pc := 8) F d_Bytes_read_8 ?_
  refine cl_BArr (pc := 9) F hb (gw_and1023 _) d_Bytes_read_9 ?_
  exact gw_iret (pc := 10) F d_Bytes_read_10
theorem cb_read {b : Nat} (hb : b = 2 ∨ b = 7) (S : gw_S) (a1 : Int32) (h : cOK S) : vp_in (f_Bytes_read b S a1).1 256 := (h (b + 1) _).1 (by omega)
set_option maxHeartbeats 4000000 in
set_option maxRecDepth 100000 in
theorem po_ok_Bytes_read  {b : Nat} (hb : b = 2 ∨ b = 7) (S : gw_S) (a1 : Int32) (hf_ok : cOK S) : cOK (f_Bytes_read b S a1).2 := by
  unfold f_Bytes_read
  exact hf_ok
def f_Bytes_readPair  (b : Nat) (S : gw_S) (a1 : Int32) : Int32 × gw_S := (gw_n (S (b + 1) ((a1 &&& (1023 : Int32)) : Int32).toNatClampNeg) fun v10 => (((v10 <<< ((8 : Int32) &&& 31)) ||| (S (b + 1) (((a1 + (1 : Int32)) &&& (1023 : Int32)) : Int32).toNatClampNeg)), S))
set_option maxHeartbeats 4000000 in
set_option maxRecDepth 100000 in
theorem c_Bytes_readPair (hJ : gw_J 46 ad)  {b : Nat} (hb : b = 2 ∨ b = 7) (S : gw_S) (a1 : Int32) : gw_M l y_Bytes_readPair prog_2_method_3_code 3 (some .int) gTs (gw_rm 0) D gCl (gTys cI cB cC cZ) 46 ad (cE ad cI cB cC) gw_rI [.ref (ad b), .int a1] S (f_Bytes_readPair b S a1) := by
  refine gw_start gTs_ok (plainFor_of_name (by decide)) hJ (Nat.le_of_ble_eq_true rfl) (fun X A F => ?_)
  refine gw_lve (lv' := [(0, .ref (ad b)), (1, .int a1)]) rfl ?_
  unfold f_Bytes_readPair
  refine gw_aload_n (pc := 0) F 0 d_Bytes_readPair_0 rfl rfl ?_
  refine cg_Bytes_bytes (pc := 1) F hb tw_31 d_Bytes_readPair_1 ?_
  refine gw_iload_n (pc := 4) F 1 d_Bytes_readPair_4 rfl rfl ?_
  refine gw_sipush (pc := 5) (v := (1023 : Int32)) F d_Bytes_readPair_5 (by decide) ?_
  refine gw_iand (pc := 8) F d_Bytes_readPair_8 ?_
  refine cl_BArr (pc := 9) F hb (gw_and1023 _) d_Bytes_readPair_9 ?_
  refine gw_nI (fun v10 e10 => ?_)
  refine gw_istore_n (pc := 10) (lv' := [(2, .int v10), (0, .ref (ad b)), (1, .int a1)]) F d_Bytes_readPair_10 rfl (by decide) rfl ?_
  refine gw_iload_n (pc := 11) F 0 d_Bytes_readPair_11 rfl rfl ?_
  refine gw_bipush (pc := 12) (v := (8 : Int32)) F d_Bytes_readPair_12 (by decide) ?_
  refine gw_ishl (pc := 14) F d_Bytes_readPair_14 ?_
  refine gw_aload_n (pc := 15) F 1 d_Bytes_readPair_15 rfl rfl ?_
  refine cg_Bytes_bytes (pc := 16) F hb tw_31 d_Bytes_readPair_16 ?_
  refine gw_iload_n (pc := 19) F 2 d_Bytes_readPair_19 rfl rfl ?_
  refine gw_iconst (pc := 20) (v := (1 : Int32)) F d_Bytes_readPair_20 (by decide) ?_
  refine gw_iadd (pc := 21) F d_Bytes_readPair_21 ?_
  refine gw_sipush (pc := 22) (v := (1023 : Int32)) F d_Bytes_readPair_22 (by decide) ?_
  refine gw_iand (pc := 25) F d_Bytes_readPair_25 ?_
  refine cl_BArr (pc := 26) F hb (gw_and1023 _) d_Bytes_readPair_26 ?_
  refine gw_ior (pc := 27) F d_Bytes_readPair_27 ?_
  exact gw_iret (pc := 28) F d_Bytes_readPair_28
set_option maxHeartbeats 4000000 in
set_option maxRecDepth 100000 in
theorem po_ok_Bytes_readPair  {b : Nat} (hb : b = 2 ∨ b = 7) (S : gw_S) (a1 : Int32) (hf_ok : cOK S) : cOK (f_Bytes_readPair b S a1).2 := by
  unfold f_Bytes_readPair
  refine po_n (Φ := fun p : Int32 × gw_S => cOK p.2) (fun v10 e10 => ?_)
  exact hf_ok
def f_Bytes_write  (b : Nat) (S : gw_S) (a1 : Int32) (a2 : Int32) : Unit × gw_S := (gw_n (gw_u S (b + 1) ((a1 &&& (1023 : Int32)) : Int32).toNatClampNeg (a2 &&& (255 : Int32))) fun S14 => ((), S14))
set_option maxHeartbeats 4000000 in
set_option maxRecDepth 100000 in
theorem c_Bytes_write (hJ : gw_J 46 ad)  {b : Nat} (hb : b = 2 ∨ b = 7) (S : gw_S) (a1 : Int32) (a2 : Int32) : gw_M l y_Bytes_write prog_2_method_4_code 3 none gTs (gw_rm 0) D gCl (gTys cI cB cC cZ) 46 ad (cE ad cI cB cC) gw_rV [.ref (ad b), .int a1, .int a2] S (f_Bytes_write b S a1 a2) := by
  refine gw_start gTs_ok (plainFor_of_name (by decide)) hJ (Nat.le_of_ble_eq_true rfl) (fun X A F => ?_)
  refine gw_lve (lv' := [(0, .ref (ad b)), (1, .int a1), (2, .int a2)]) rfl ?_
  unfold f_Bytes_write
  refine gw_aload_n (pc := 0) F 0 d_Bytes_write_0 rfl rfl ?_
  refine cg_Bytes_bytes (pc := 1) F hb tw_31 d_Bytes_write_1 ?_
  refine gw_iload_n (pc := 4) F 1 d_Bytes_write_4 rfl rfl ?_
  refine gw_sipush (pc := 5) (v := (1023 : Int32)) F d_Bytes_write_5 (by decide) ?_
  refine gw_iand (pc := 8) F d_Bytes_write_8 ?_
  refine gw_iload_n (pc := 9) F 2 d_Bytes_write_9 rfl rfl ?_
  refine gw_sipush (pc := 10) (v := (255 : Int32)) F d_Bytes_write_10 (by decide) ?_
  refine gw_iand (pc := 13) F d_Bytes_write_13 ?_
  refine cs_BArr (pc := 14) F hb (gw_and1023 _) d_Bytes_write_14 ?_
  refine gw_nS (fun S14 E14 => ?_)
  exact gw_vret (pc := 15) F d_Bytes_write_15
set_option maxHeartbeats 4000000 in
set_option maxRecDepth 100000 in
theorem po_ok_Bytes_write  {b : Nat} (hb : b = 2 ∨ b = 7) (S : gw_S) (a1 : Int32) (a2 : Int32) (hf_ok : cOK S) : cOK (f_Bytes_write b S a1 a2).2 := by
  unfold f_Bytes_write
  refine po_n (Φ := fun p : Unit × gw_S => cOK p.2) (fun S14 E14 => ?_)
  exact (cOK_B hb E14 hf_ok (gw_and255 _))
def f_Channel_isRunning  (j : Nat) (S : gw_S)  : Int32 × gw_S := (if (S (j + 14) 2) = (-1 : Int32) then (((0 : Int32), S)) else (if (S (j + 14) 3) = 0 then (((1 : Int32), S)) else (((0 : Int32), S))))
set_option maxHeartbeats 4000000 in
set_option maxRecDepth 100000 in
theorem c_Channel_isRunning (hJ : gw_J 46 ad)  {j : Nat} (hj : j < 16) (S : gw_S)  : gw_M l y_Channel_isRunning prog_3_method_2_code 1 (some .boolean) gTs (gw_rm 0) D gCl (gTys cI cB cC cZ) 46 ad (cE ad cI cB cC) gw_rI [.ref (ad (j + 14))] S (f_Channel_isRunning j S) := by
  refine gw_start gTs_ok (plainFor_of_name (by decide)) hJ (Nat.le_of_ble_eq_true rfl) (fun X A F => ?_)
  refine gw_lve (lv' := [(0, .ref (ad (j + 14)))]) rfl ?_
  unfold f_Channel_isRunning
  refine gw_aload_n (pc := 0) F 0 d_Channel_isRunning_0 rfl rfl ?_
  refine cg_Channel_address (pc := 1) F hj tw_107 d_Channel_isRunning_1 ?_
  refine gw_iconst (pc := 4) (v := (-1 : Int32)) F d_Channel_isRunning_4 (by decide) ?_
  refine gw_icmp_eqS (pc := 5) (tgt := 19) F d_Channel_isRunning_5 (by decide) (fun h5 => ?_) (fun h5 => ?_)
  · refine gw_iconst (pc := 19) (v := (0 : Int32)) F d_Channel_isRunning_19 (by decide) ?_
    exact gw_zret (pc := 20) F d_Channel_isRunning_20 rfl
  · refine gw_aload_n (pc := 8) F 0 d_Channel_isRunning_8 rfl rfl ?_
    refine cg_Channel_paused (pc := 9) F hj tw_110 d_Channel_isRunning_9 ?_
    refine gw_if_neS (pc := 12) (tgt := 19) F d_Channel_isRunning_12 (by decide) (fun h12 => ?_) (fun h12 => ?_)
    · refine gw_iconst (pc := 19) (v := (0 : Int32)) F d_Channel_isRunning_19 (by decide) ?_
      exact gw_zret (pc := 20) F d_Channel_isRunning_20 rfl
    · refine gw_iconst (pc := 15) (v := (1 : Int32)) F d_Channel_isRunning_15 (by decide) ?_
      refine gw_goto (pc := 16) (tgt := 20) F d_Channel_isRunning_16 (by decide) ?_
      exact gw_zret (pc := 20) F d_Channel_isRunning_20 rfl
set_option maxHeartbeats 4000000 in
set_option maxRecDepth 100000 in
theorem po_ok_Channel_isRunning  {j : Nat} (hj : j < 16) (S : gw_S)  (hf_ok : cOK S) : cOK (f_Channel_isRunning j S).2 := by
  unfold f_Channel_isRunning
  refine po_if (Φ := fun p : Int32 × gw_S => cOK p.2) (fun h5 => ?_) (fun h5 => ?_)
  · exact hf_ok
  · refine po_if (Φ := fun p : Int32 × gw_S => cOK p.2) (fun h12 => ?_) (fun h12 => ?_)
    · exact hf_ok
    · exact hf_ok
def f_Channel_settleAsked  (j : Nat) (S : gw_S)  : Unit × gw_S := (if (S (j + 14) 5) = (-2 : Int32) then (if (S (j + 14) 6) = (-2 : Int32) then (((), S)) else (if (S (j + 14) 6) = (1 : Int32) then (gw_n (gw_u S (j + 14) 3 (1 : Int32)) fun S51 => gw_n (gw_u S51 (j + 14) 6 (-2 : Int32)) fun S57 => ((), S57)) else (gw_n (gw_u S (j + 14) 3 (0 : Int32)) fun S51 => gw_n (gw_u S51 (j + 14) 6 (-2 : Int32)) fun S57 => ((), S57)))) else (gw_n (gw_u S (j + 14) 2 (S (j + 14) 5)) fun S14 => gw_n (gw_u S14 (j + 14) 1 (0 : Int32)) fun S19 => gw_n (gw_u S19 (j + 14) 5 (-2 : Int32)) fun S25 => if (S25 (j + 14) 6) = (-2 : Int32) then (((), S25)) else (if (S25 (j + 14) 6) = (1 : Int32) then (gw_n (gw_u S25 (j + 14) 3 (1 : Int32)) fun S51 => gw_n (gw_u S51 (j + 14) 6 (-2 : Int32)) fun S57 => ((), S57)) else (gw_n (gw_u S25 (j + 14) 3 (0 : Int32)) fun S51 => gw_n (gw_u S51 (j + 14) 6 (-2 : Int32)) fun S57 => ((), S57)))))
set_option maxHeartbeats 4000000 in
set_option maxRecDepth 100000 in
theorem c_Channel_settleAsked (hJ : gw_J 46 ad)  {j : Nat} (hj : j < 16) (S : gw_S)  : gw_M l y_Channel_settleAsked prog_3_method_3_code 1 none gTs (gw_rm 0) D gCl (gTys cI cB cC cZ) 46 ad (cE ad cI cB cC) gw_rV [.ref (ad (j + 14))] S (f_Channel_settleAsked j S) := by
  refine gw_start gTs_ok (plainFor_of_name (by decide)) hJ (Nat.le_of_ble_eq_true rfl) (fun X A F => ?_)
  refine gw_lve (lv' := [(0, .ref (ad (j + 14)))]) rfl ?_
  unfold f_Channel_settleAsked
  refine gw_aload_n (pc := 0) F 0 d_Channel_settleAsked_0 rfl rfl ?_
  refine cg_Channel_askedAddress (pc := 1) F hj tw_115 d_Channel_settleAsked_1 ?_
  refine gw_bipush (pc := 4) (v := (-2 : Int32)) F d_Channel_settleAsked_4 (by decide) ?_
  refine gw_icmp_eqS (pc := 6) (tgt := 28) F d_Channel_settleAsked_6 (by decide) (fun h6 => ?_) (fun h6 => ?_)
  · refine gw_aload_n (pc := 28) F 0 d_Channel_settleAsked_28 rfl rfl ?_
    refine cg_Channel_askedPause (pc := 29) F hj tw_118 d_Channel_settleAsked_29 ?_
    refine gw_bipush (pc := 32) (v := (-2 : Int32)) F d_Channel_settleAsked_32 (by decide) ?_
    refine gw_icmp_eqS (pc := 34) (tgt := 60) F d_Channel_settleAsked_34 (by decide) (fun h34 => ?_) (fun h34 => ?_)
    · exact gw_vret (pc := 60) F d_Channel_settleAsked_60
    · refine gw_aload_n (pc := 37) F 0 d_Channel_settleAsked_37 rfl rfl ?_
      refine gw_aload_n (pc := 38) F 0 d_Channel_settleAsked_38 rfl rfl ?_
      refine cg_Channel_askedPause (pc := 39) F hj tw_118 d_Channel_settleAsked_39 ?_
      refine gw_iconst (pc := 42) (v := (1 : Int32)) F d_Channel_settleAsked_42 (by decide) ?_
      refine gw_icmp_neS (pc := 43) (tgt := 50) F d_Channel_settleAsked_43 (by decide) (fun h43 => ?_) (fun h43 => ?_)
      · refine gw_iconst (pc := 50) (v := (0 : Int32)) F d_Channel_settleAsked_50 (by decide) ?_
        refine cp_Channel_paused (pc := 51) F hj tw_110 d_Channel_settleAsked_51 rfl rfl ?_
        refine gw_nS (fun S51 E51 => ?_)
        refine gw_aload_n (pc := 54) F 0 d_Channel_settleAsked_54 rfl rfl ?_
        refine gw_bipush (pc := 55) (v := (-2 : Int32)) F d_Channel_settleAsked_55 (by decide) ?_
        refine cp_Channel_askedPause (pc := 57) F hj tw_118 d_Channel_settleAsked_57 ?_
        refine gw_nS (fun S57 E57 => ?_)
        exact gw_vret (pc := 60) F d_Channel_settleAsked_60
      · refine gw_iconst (pc := 46) (v := (1 : Int32)) F d_Channel_settleAsked_46 (by decide) ?_
        refine gw_goto (pc := 47) (tgt := 51) F d_Channel_settleAsked_47 (by decide) ?_
        refine cp_Channel_paused (pc := 51) F hj tw_110 d_Channel_settleAsked_51 rfl rfl ?_
        refine gw_nS (fun S51 E51 => ?_)
        refine gw_aload_n (pc := 54) F 0 d_Channel_settleAsked_54 rfl rfl ?_
        refine gw_bipush (pc := 55) (v := (-2 : Int32)) F d_Channel_settleAsked_55 (by decide) ?_
        refine cp_Channel_askedPause (pc := 57) F hj tw_118 d_Channel_settleAsked_57 ?_
        refine gw_nS (fun S57 E57 => ?_)
        exact gw_vret (pc := 60) F d_Channel_settleAsked_60
  · refine gw_aload_n (pc := 9) F 0 d_Channel_settleAsked_9 rfl rfl ?_
    refine gw_aload_n (pc := 10) F 0 d_Channel_settleAsked_10 rfl rfl ?_
    refine cg_Channel_askedAddress (pc := 11) F hj tw_115 d_Channel_settleAsked_11 ?_
    refine cp_Channel_address (pc := 14) F hj tw_107 d_Channel_settleAsked_14 ?_
    refine gw_nS (fun S14 E14 => ?_)
    refine gw_aload_n (pc := 17) F 0 d_Channel_settleAsked_17 rfl rfl ?_
    refine gw_iconst (pc := 18) (v := (0 : Int32)) F d_Channel_settleAsked_18 (by decide) ?_
    refine cp_Channel_returns (pc := 19) F hj tw_105 d_Channel_settleAsked_19 ?_
    refine gw_nS (fun S19 E19 => ?_)
    refine gw_aload_n (pc := 22) F 0 d_Channel_settleAsked_22 rfl rfl ?_
    refine gw_bipush (pc := 23) (v := (-2 : Int32)) F d_Channel_settleAsked_23 (by decide) ?_
    refine cp_Channel_askedAddress (pc := 25) F hj tw_115 d_Channel_settleAsked_25 ?_
    refine gw_nS (fun S25 E25 => ?_)
    refine gw_aload_n (pc := 28) F 0 d_Channel_settleAsked_28 rfl rfl ?_
    refine cg_Channel_askedPause (pc := 29) F hj tw_118 d_Channel_settleAsked_29 ?_
    refine gw_bipush (pc := 32) (v := (-2 : Int32)) F d_Channel_settleAsked_32 (by decide) ?_
    refine gw_icmp_eqS (pc := 34) (tgt := 60) F d_Channel_settleAsked_34 (by decide) (fun h34 => ?_) (fun h34 => ?_)
    · exact gw_vret (pc := 60) F d_Channel_settleAsked_60
    · refine gw_aload_n (pc := 37) F 0 d_Channel_settleAsked_37 rfl rfl ?_
      refine gw_aload_n (pc := 38) F 0 d_Channel_settleAsked_38 rfl rfl ?_
      refine cg_Channel_askedPause (pc := 39) F hj tw_118 d_Channel_settleAsked_39 ?_
      refine gw_iconst (pc := 42) (v := (1 : Int32)) F d_Channel_settleAsked_42 (by decide) ?_
      refine gw_icmp_neS (pc := 43) (tgt := 50) F d_Channel_settleAsked_43 (by decide) (fun h43 => ?_) (fun h43 => ?_)
      · refine gw_iconst (pc := 50) (v := (0 : Int32)) F d_Channel_settleAsked_50 (by decide) ?_
        refine cp_Channel_paused (pc := 51) F hj tw_110 d_Channel_settleAsked_51 rfl rfl ?_
        refine gw_nS (fun S51 E51 => ?_)
        refine gw_aload_n (pc := 54) F 0 d_Channel_settleAsked_54 rfl rfl ?_
        refine gw_bipush (pc := 55) (v := (-2 : Int32)) F d_Channel_settleAsked_55 (by decide) ?_
        refine cp_Channel_askedPause (pc := 57) F hj tw_118 d_Channel_settleAsked_57 ?_
        refine gw_nS (fun S57 E57 => ?_)
        exact gw_vret (pc := 60) F d_Channel_settleAsked_60
      · refine gw_iconst (pc := 46) (v := (1 : Int32)) F d_Channel_settleAsked_46 (by decide) ?_
        refine gw_goto (pc := 47) (tgt := 51) F d_Channel_settleAsked_47 (by decide) ?_
        refine cp_Channel_paused (pc := 51) F hj tw_110 d_Channel_settleAsked_51 rfl rfl ?_
        refine gw_nS (fun S51 E51 => ?_)
        refine gw_aload_n (pc := 54) F 0 d_Channel_settleAsked_54 rfl rfl ?_
        refine gw_bipush (pc := 55) (v := (-2 : Int32)) F d_Channel_settleAsked_55 (by decide) ?_
        refine cp_Channel_askedPause (pc := 57) F hj tw_118 d_Channel_settleAsked_57 ?_
        refine gw_nS (fun S57 E57 => ?_)
        exact gw_vret (pc := 60) F d_Channel_settleAsked_60
set_option maxHeartbeats 4000000 in
set_option maxRecDepth 100000 in
theorem po_ok_Channel_settleAsked  {j : Nat} (hj : j < 16) (S : gw_S)  (hf_ok : cOK S) : cOK (f_Channel_settleAsked j S).2 := by
  unfold f_Channel_settleAsked
  refine po_if (Φ := fun p : Unit × gw_S => cOK p.2) (fun h6 => ?_) (fun h6 => ?_)
  · refine po_if (Φ := fun p : Unit × gw_S => cOK p.2) (fun h34 => ?_) (fun h34 => ?_)
    · exact hf_ok
    · refine po_if (Φ := fun p : Unit × gw_S => cOK p.2) (fun h43 => ?_) (fun h43 => ?_)
      · refine po_n (Φ := fun p : Unit × gw_S => cOK p.2) (fun S51 E51 => ?_)
        refine po_n (Φ := fun p : Unit × gw_S => cOK p.2) (fun S57 E57 => ?_)
        exact (cOK_o E57 (cOK_o E51 hf_ok (by omega)) (by omega))
      · refine po_n (Φ := fun p : Unit × gw_S => cOK p.2) (fun S51 E51 => ?_)
        refine po_n (Φ := fun p : Unit × gw_S => cOK p.2) (fun S57 E57 => ?_)
        exact (cOK_o E57 (cOK_o E51 hf_ok (by omega)) (by omega))
  · refine po_n (Φ := fun p : Unit × gw_S => cOK p.2) (fun S14 E14 => ?_)
    refine po_n (Φ := fun p : Unit × gw_S => cOK p.2) (fun S19 E19 => ?_)
    refine po_n (Φ := fun p : Unit × gw_S => cOK p.2) (fun S25 E25 => ?_)
    refine po_if (Φ := fun p : Unit × gw_S => cOK p.2) (fun h34 => ?_) (fun h34 => ?_)
    · exact (cOK_o E25 (cOK_o E19 (cOK_o E14 hf_ok (by omega)) (by omega)) (by omega))
    · refine po_if (Φ := fun p : Unit × gw_S => cOK p.2) (fun h43 => ?_) (fun h43 => ?_)
      · refine po_n (Φ := fun p : Unit × gw_S => cOK p.2) (fun S51 E51 => ?_)
        refine po_n (Φ := fun p : Unit × gw_S => cOK p.2) (fun S57 E57 => ?_)
        exact (cOK_o E57 (cOK_o E51 (cOK_o E25 (cOK_o E19 (cOK_o E14 hf_ok (by omega)) (by omega)) (by omega)) (by omega)) (by omega))
      · refine po_n (Φ := fun p : Unit × gw_S => cOK p.2) (fun S51 E51 => ?_)
        refine po_n (Φ := fun p : Unit × gw_S => cOK p.2) (fun S57 E57 => ?_)
        exact (cOK_o E57 (cOK_o E51 (cOK_o E25 (cOK_o E19 (cOK_o E14 hf_ok (by omega)) (by omega)) (by omega)) (by omega)) (by omega))
def f_Channel_pushReturn  (j : Nat) (S : gw_S) (a1 : Int32) : Int32 × gw_S := (if (S (j + 14) 1) < 0 then (((0 : Int32), S)) else (if (S (j + 14) 1) < (8 : Int32) then (gw_n (gw_u S (j + 30) ((S (j + 14) 1) : Int32).toNatClampNeg a1) fun S27 => gw_n (gw_u S27 (j + 14) 1 ((S27 (j + 14) 1) + (1 : Int32))) fun S35 => ((1 : Int32), S35)) else (((0 : Int32), S))))
set_option maxHeartbeats 4000000 in
set_option maxRecDepth 100000 in
theorem c_Channel_pushReturn (hJ : gw_J 46 ad)  {j : Nat} (hj : j < 16) (S : gw_S) (a1 : Int32) : gw_M l y_Channel_pushReturn prog_3_method_4_code 2 (some .boolean) gTs (gw_rm 0) D gCl (gTys cI cB cC cZ) 46 ad (cE ad cI cB cC) gw_rI [.ref (ad (j + 14)), .int a1] S (f_Channel_pushReturn j S a1) := by
  refine gw_start gTs_ok (plainFor_of_name (by decide)) hJ (Nat.le_of_ble_eq_true rfl) (fun X A F => ?_)
  refine gw_lve (lv' := [(0, .ref (ad (j + 14))), (1, .int a1)]) rfl ?_
  unfold f_Channel_pushReturn
  refine gw_aload_n (pc := 0) F 0 d_Channel_pushReturn_0 rfl rfl ?_
  refine cg_Channel_returns (pc := 1) F hj tw_105 d_Channel_pushReturn_1 ?_
  refine gw_if_ltS (pc := 4) (tgt := 16) F d_Channel_pushReturn_4 (by decide) (fun h4 => ?_) (fun h4 => ?_)
  · refine gw_iconst (pc := 16) (v := (0 : Int32)) F d_Channel_pushReturn_16 (by decide) ?_
    exact gw_zret (pc := 17) F d_Channel_pushReturn_17 rfl
  · refine gw_aload_n (pc := 7) F 0 d_Channel_pushReturn_7 rfl rfl ?_
    refine cg_Channel_returns (pc := 8) F hj tw_105 d_Channel_pushReturn_8 ?_
    refine gw_bipush (pc := 11) (v := (8 : Int32)) F d_Channel_pushReturn_11 (by decide) ?_
    refine gw_icmp_ltS (pc := 13) (tgt := 18) F d_Channel_pushReturn_13 (by decide) (fun h13 => ?_) (fun h13 => ?_)
    · refine gw_aload_n (pc := 18) F 0 d_Channel_pushReturn_18 rfl rfl ?_
      refine cg_Channel_pile (pc := 19) F hj tw_104 d_Channel_pushReturn_19 ?_
      refine gw_aload_n (pc := 22) F 0 d_Channel_pushReturn_22 rfl rfl ?_
      refine cg_Channel_returns (pc := 23) F hj tw_105 d_Channel_pushReturn_23 ?_
      refine gw_iload_n (pc := 26) F 1 d_Channel_pushReturn_26 rfl rfl ?_
      refine cs_Pile (pc := 27) F hj (gw_inC (N := 8) (b := 8) (by decide) h13 h4) d_Channel_pushReturn_27 ?_
      refine gw_nS (fun S27 E27 => ?_)
      refine gw_aload_n (pc := 28) F 0 d_Channel_pushReturn_28 rfl rfl ?_
      refine gw_dup (pc := 29) F d_Channel_pushReturn_29 rfl ?_
      refine cg_Channel_returns (pc := 30) F hj tw_105 d_Channel_pushReturn_30 ?_
      refine gw_iconst (pc := 33) (v := (1 : Int32)) F d_Channel_pushReturn_33 (by decide) ?_
      refine gw_iadd (pc := 34) F d_Channel_pushReturn_34 ?_
      refine cp_Channel_returns (pc := 35) F hj tw_105 d_Channel_pushReturn_35 ?_
      refine gw_nS (fun S35 E35 => ?_)
      refine gw_iconst (pc := 38) (v := (1 : Int32)) F d_Channel_pushReturn_38 (by decide) ?_
      exact gw_zret (pc := 39) F d_Channel_pushReturn_39 rfl
    · refine gw_iconst (pc := 16) (v := (0 : Int32)) F d_Channel_pushReturn_16 (by decide) ?_
      exact gw_zret (pc := 17) F d_Channel_pushReturn_17 rfl
set_option maxHeartbeats 4000000 in
set_option maxRecDepth 100000 in
theorem po_ok_Channel_pushReturn  {j : Nat} (hj : j < 16) (S : gw_S) (a1 : Int32) (hf_ok : cOK S) : cOK (f_Channel_pushReturn j S a1).2 := by
  unfold f_Channel_pushReturn
  refine po_if (Φ := fun p : Int32 × gw_S => cOK p.2) (fun h4 => ?_) (fun h4 => ?_)
  · exact hf_ok
  · refine po_if (Φ := fun p : Int32 × gw_S => cOK p.2) (fun h13 => ?_) (fun h13 => ?_)
    · refine po_n (Φ := fun p : Int32 × gw_S => cOK p.2) (fun S27 E27 => ?_)
      refine po_n (Φ := fun p : Int32 × gw_S => cOK p.2) (fun S35 E35 => ?_)
      exact (cOK_o E35 (cOK_o E27 hf_ok (by omega)) (by omega))
    · exact hf_ok
def f_Channel_popReturn  (j : Nat) (S : gw_S)  : Int32 × gw_S := (if (S (j + 14) 1) < (1 : Int32) then (((-1 : Int32), S)) else (if (S (j + 14) 1) ≤ (8 : Int32) then (gw_n (gw_u S (j + 14) 1 ((S (j + 14) 1) - (1 : Int32))) fun S26 => ((S26 (j + 30) ((S26 (j + 14) 1) : Int32).toNatClampNeg), S26)) else (((-1 : Int32), S))))
set_option maxHeartbeats 4000000 in
set_option maxRecDepth 100000 in
theorem c_Channel_popReturn (hJ : gw_J 46 ad)  {j : Nat} (hj : j < 16) (S : gw_S)  : gw_M l y_Channel_popReturn prog_3_method_5_code 1 (some .int) gTs (gw_rm 0) D gCl (gTys cI cB cC cZ) 46 ad (cE ad cI cB cC) gw_rI [.ref (ad (j + 14))] S (f_Channel_popReturn j S) := by
  refine gw_start gTs_ok (plainFor_of_name (by decide)) hJ (Nat.le_of_ble_eq_true rfl) (fun X A F => ?_)
  refine gw_lve (lv' := [(0, .ref (ad (j + 14)))]) rfl ?_
  unfold f_Channel_popReturn
  refine gw_aload_n (pc := 0) F 0 d_Channel_popReturn_0 rfl rfl ?_
  refine cg_Channel_returns (pc := 1) F hj tw_105 d_Channel_popReturn_1 ?_
  refine gw_iconst (pc := 4) (v := (1 : Int32)) F d_Channel_popReturn_4 (by decide) ?_
  refine gw_icmp_ltS (pc := 5) (tgt := 17) F d_Channel_popReturn_5 (by decide) (fun h5 => ?_) (fun h5 => ?_)
  · refine gw_iconst (pc := 17) (v := (-1 : Int32)) F d_Channel_popReturn_17 (by decide) ?_
    exact gw_iret (pc := 18) F d_Channel_popReturn_18
  · refine gw_aload_n (pc := 8) F 0 d_Channel_popReturn_8 rfl rfl ?_
    refine cg_Channel_returns (pc := 9) F hj tw_105 d_Channel_popReturn_9 ?_
    refine gw_bipush (pc := 12) (v := (8 : Int32)) F d_Channel_popReturn_12 (by decide) ?_
    refine gw_icmp_leS (pc := 14) (tgt := 19) F d_Channel_popReturn_14 (by decide) (fun h14 => ?_) (fun h14 => ?_)
    · refine gw_aload_n (pc := 19) F 0 d_Channel_popReturn_19 rfl rfl ?_
      refine gw_dup (pc := 20) F d_Channel_popReturn_20 rfl ?_
      refine cg_Channel_returns (pc := 21) F hj tw_105 d_Channel_popReturn_21 ?_
      refine gw_iconst (pc := 24) (v := (1 : Int32)) F d_Channel_popReturn_24 (by decide) ?_
      refine gw_isub (pc := 25) F d_Channel_popReturn_25 ?_
      refine cp_Channel_returns (pc := 26) F hj tw_105 d_Channel_popReturn_26 ?_
      refine gw_nS (fun S26 E26 => ?_)
      refine gw_aload_n (pc := 29) F 0 d_Channel_popReturn_29 rfl rfl ?_
      refine cg_Channel_pile (pc := 30) F hj tw_104 d_Channel_popReturn_30 ?_
      refine gw_aload_n (pc := 33) F 0 d_Channel_popReturn_33 rfl rfl ?_
      refine cg_Channel_returns (pc := 34) F hj tw_105 d_Channel_popReturn_34 ?_
      refine cl_Pile (pc := 37) F hj (gw_popIn E26 h5 h14) d_Channel_popReturn_37 ?_
      exact gw_iret (pc := 38) F d_Channel_popReturn_38
    · refine gw_iconst (pc := 17) (v := (-1 : Int32)) F d_Channel_popReturn_17 (by decide) ?_
      exact gw_iret (pc := 18) F d_Channel_popReturn_18
set_option maxHeartbeats 4000000 in
set_option maxRecDepth 100000 in
theorem po_ok_Channel_popReturn  {j : Nat} (hj : j < 16) (S : gw_S)  (hf_ok : cOK S) : cOK (f_Channel_popReturn j S).2 := by
  unfold f_Channel_popReturn
  refine po_if (Φ := fun p : Int32 × gw_S => cOK p.2) (fun h5 => ?_) (fun h5 => ?_)
  · exact hf_ok
  · refine po_if (Φ := fun p : Int32 × gw_S => cOK p.2) (fun h14 => ?_) (fun h14 => ?_)
    · refine po_n (Φ := fun p : Int32 × gw_S => cOK p.2) (fun S26 E26 => ?_)
      exact (cOK_o E26 hf_ok (by omega))
    · exact hf_ok
def f_Pages_pageOf   (S : gw_S) (a1 : Int32) : Int32 × gw_S := (if (128 : Int32) ≤ a1 then (if a1 = (254 : Int32) then (((S 9 2), S)) else (((S 9 1), S))) else (((a1 &&& (3 : Int32)), S)))
set_option maxHeartbeats 4000000 in
set_option maxRecDepth 100000 in
theorem c_Pages_pageOf (hJ : gw_J 46 ad)   (S : gw_S) (a1 : Int32) : gw_M l y_Pages_pageOf prog_4_method_2_code 2 (some .int) gTs (gw_rm 0) D gCl (gTys cI cB cC cZ) 46 ad (cE ad cI cB cC) gw_rI [.ref (ad 9), .int a1] S (f_Pages_pageOf S a1) := by
  refine gw_start gTs_ok (plainFor_of_name (by decide)) hJ (Nat.le_of_ble_eq_true rfl) (fun X A F => ?_)
  refine gw_lve (lv' := [(0, .ref (ad 9)), (1, .int a1)]) rfl ?_
  unfold f_Pages_pageOf
  refine gw_iload_n (pc := 0) F 1 d_Pages_pageOf_0 rfl rfl ?_
  refine gw_sipush (pc := 1) (v := (128 : Int32)) F d_Pages_pageOf_1 (by decide) ?_
  refine gw_icmp_geS (pc := 4) (tgt := 11) F d_Pages_pageOf_4 (by decide) (fun h4 => ?_) (fun h4 => ?_)
  · refine gw_iload_n (pc := 11) F 1 d_Pages_pageOf_11 rfl rfl ?_
    refine gw_sipush (pc := 12) (v := (254 : Int32)) F d_Pages_pageOf_12 (by decide) ?_
    refine gw_icmp_neS (pc := 15) (tgt := 25) F d_Pages_pageOf_15 (by decide) (fun h15 => ?_) (fun h15 => ?_)
    · refine gw_aload_n (pc := 25) F 0 d_Pages_pageOf_25 rfl rfl ?_
      refine cg_Pages_working (pc := 26) F tw_54 d_Pages_pageOf_26 ?_
      exact gw_iret (pc := 29) F d_Pages_pageOf_29
    · refine gw_aload_n (pc := 18) F 0 d_Pages_pageOf_18 rfl rfl ?_
      refine cg_Pages_shown (pc := 19) F tw_57 d_Pages_pageOf_19 ?_
      refine gw_goto (pc := 22) (tgt := 29) F d_Pages_pageOf_22 (by decide) ?_
      exact gw_iret (pc := 29) F d_Pages_pageOf_29
  · refine gw_iload_n (pc := 7) F 1 d_Pages_pageOf_7 rfl rfl ?_
    refine gw_iconst (pc := 8) (v := (3 : Int32)) F d_Pages_pageOf_8 (by decide) ?_
    refine gw_iand (pc := 9) F d_Pages_pageOf_9 ?_
    exact gw_iret (pc := 10) F d_Pages_pageOf_10
theorem cb_pageOf (S : gw_S) (a1 : Int32) (h : cOK S) : vp_in (f_Pages_pageOf S a1).1 4 := by
  unfold f_Pages_pageOf
  refine po_if (Φ := fun p : Int32 × gw_S => vp_in p.1 4) (fun _ => ?_) (fun _ => gw_and3 _)
  exact po_if (Φ := fun p : Int32 × gw_S => vp_in p.1 4) (fun _ => (h 9 2).2.2.1 rfl (Or.inr rfl)) (fun _ => (h 9 1).2.2.1 rfl (Or.inl rfl))
set_option maxHeartbeats 4000000 in
set_option maxRecDepth 100000 in
theorem po_ok_Pages_pageOf   (S : gw_S) (a1 : Int32) (hf_ok : cOK S) : cOK (f_Pages_pageOf S a1).2 := by
  unfold f_Pages_pageOf
  refine po_if (Φ := fun p : Int32 × gw_S => cOK p.2) (fun h4 => ?_) (fun h4 => ?_)
  · refine po_if (Φ := fun p : Int32 × gw_S => cOK p.2) (fun h15 => ?_) (fun h15 => ?_)
    · exact hf_ok
    · exact hf_ok
  · exact hf_ok
def f_Pages_startOfRow   (S : gw_S) (a1 : Int32) : Int32 × gw_S := (((((S 9 1) * (2560 : Int32)) + (a1 * (64 : Int32))), S))
set_option maxHeartbeats 4000000 in
set_option maxRecDepth 100000 in
theorem c_Pages_startOfRow (hJ : gw_J 46 ad)   (S : gw_S) (a1 : Int32) : gw_M l y_Pages_startOfRow prog_4_method_6_code 2 (some .int) gTs (gw_rm 0) D gCl (gTys cI cB cC cZ) 46 ad (cE ad cI cB cC) gw_rI [.ref (ad 9), .int a1] S (f_Pages_startOfRow S a1) := by
  refine gw_start gTs_ok (plainFor_of_name (by decide)) hJ (Nat.le_of_ble_eq_true rfl) (fun X A F => ?_)
  refine gw_lve (lv' := [(0, .ref (ad 9)), (1, .int a1)]) rfl ?_
  unfold f_Pages_startOfRow
  refine gw_aload_n (pc := 0) F 0 d_Pages_startOfRow_0 rfl rfl ?_
  refine cg_Pages_working (pc := 1) F tw_54 d_Pages_startOfRow_1 ?_
  refine gw_sipush (pc := 4) (v := (2560 : Int32)) F d_Pages_startOfRow_4 (by decide) ?_
  refine gw_imul (pc := 7) F d_Pages_startOfRow_7 ?_
  refine gw_iload_n (pc := 8) F 1 d_Pages_startOfRow_8 rfl rfl ?_
  refine gw_bipush (pc := 9) (v := (64 : Int32)) F d_Pages_startOfRow_9 (by decide) ?_
  refine gw_imul (pc := 11) F d_Pages_startOfRow_11 ?_
  refine gw_iadd (pc := 12) F d_Pages_startOfRow_12 ?_
  exact gw_iret (pc := 13) F d_Pages_startOfRow_13
set_option maxHeartbeats 4000000 in
set_option maxRecDepth 100000 in
theorem po_ok_Pages_startOfRow   (S : gw_S) (a1 : Int32) (hf_ok : cOK S) : cOK (f_Pages_startOfRow S a1).2 := by
  unfold f_Pages_startOfRow
  exact hf_ok
def f_Pages_colourAt   (S : gw_S) (a1 : Int32) (a2 : Int32) (a3 : Int32) : Int32 × gw_S := (((S 10 ((((a1 * (2560 : Int32)) + (a3 * (64 : Int32))) + a2) : Int32).toNatClampNeg), S))
set_option maxHeartbeats 4000000 in
set_option maxRecDepth 100000 in
theorem c_Pages_colourAt (hJ : gw_J 46 ad)   (S : gw_S) (a1 : Int32) (a2 : Int32) (a3 : Int32) (hb1 : vp_in a1 4) (hb2 : vp_in a2 64) (hb3 : vp_in a3 40) : gw_M l y_Pages_colourAt prog_4_method_3_code 4 (some .int) gTs (gw_rm 0) D gCl (gTys cI cB cC cZ) 46 ad (cE ad cI cB cC) gw_rI [.ref (ad 9), .int a1, .int a2, .int a3] S (f_Pages_colourAt S a1 a2 a3) := by
  refine gw_start gTs_ok (plainFor_of_name (by decide)) hJ (Nat.le_of_ble_eq_true rfl) (fun X A F => ?_)
  refine gw_lve (lv' := [(0, .ref (ad 9)), (1, .int a1), (2, .int a2), (3, .int a3)]) rfl ?_
  unfold f_Pages_colourAt
  refine gw_aload_n (pc := 0) F 0 d_Pages_colourAt_0 rfl rfl ?_
  refine cg_Pages_pixels (pc := 1) F tw_52 d_Pages_colourAt_1 ?_
  refine gw_iload_n (pc := 4) F 1 d_Pages_colourAt_4 rfl rfl ?_
  refine gw_sipush (pc := 5) (v := (2560 : Int32)) F d_Pages_colourAt_5 (by decide) ?_
  refine gw_imul (pc := 8) F d_Pages_colourAt_8 ?_
  refine gw_iload_n (pc := 9) F 3 d_Pages_colourAt_9 rfl rfl ?_
  refine gw_bipush (pc := 10) (v := (64 : Int32)) F d_Pages_colourAt_10 (by decide) ?_
  refine gw_imul (pc := 12) F d_Pages_colourAt_12 ?_
  refine gw_iadd (pc := 13) F d_Pages_colourAt_13 ?_
  refine gw_iload_n (pc := 14) F 2 d_Pages_colourAt_14 rfl rfl ?_
  refine gw_iadd (pc := 15) F d_Pages_colourAt_15 ?_
  refine cl_Pix (pc := 16) F (pg_ix hb1 hb2 hb3) d_Pages_colourAt_16 ?_
  exact gw_iret (pc := 17) F d_Pages_colourAt_17
set_option maxHeartbeats 4000000 in
set_option maxRecDepth 100000 in
theorem po_ok_Pages_colourAt   (S : gw_S) (a1 : Int32) (a2 : Int32) (a3 : Int32) (hf_ok : cOK S) (hb1 : vp_in a1 4) (hb2 : vp_in a2 64) (hb3 : vp_in a3 40) : cOK (f_Pages_colourAt S a1 a2 a3).2 := by
  unfold f_Pages_colourAt
  exact hf_ok
def f_Painter_forgetCounts   (S : gw_S)  : Unit × gw_S := (gw_n (gw_u S 6 6 (0 : Int32)) fun S2 => gw_n (gw_u S2 6 7 (0 : Int32)) fun S7 => ((), S7))
set_option maxHeartbeats 4000000 in
set_option maxRecDepth 100000 in
theorem c_Painter_forgetCounts (hJ : gw_J 46 ad)   (S : gw_S)  : gw_M l y_Painter_forgetCounts prog_5_method_2_code 1 none gTs (gw_rm 0) D gCl (gTys cI cB cC cZ) 46 ad (cE ad cI cB cC) gw_rV [.ref (ad 6)] S (f_Painter_forgetCounts S) := by
  refine gw_start gTs_ok (plainFor_of_name (by decide)) hJ (Nat.le_of_ble_eq_true rfl) (fun X A F => ?_)
  refine gw_lve (lv' := [(0, .ref (ad 6))]) rfl ?_
  unfold f_Painter_forgetCounts
  refine gw_aload_n (pc := 0) F 0 d_Painter_forgetCounts_0 rfl rfl ?_
  refine gw_iconst (pc := 1) (v := (0 : Int32)) F d_Painter_forgetCounts_1 (by decide) ?_
  refine cp_Painter_begunInFrame (pc := 2) F tw_78 d_Painter_forgetCounts_2 ?_
  refine gw_nS (fun S2 E2 => ?_)
  refine gw_aload_n (pc := 5) F 0 d_Painter_forgetCounts_5 rfl rfl ?_
  refine gw_iconst (pc := 6) (v := (0 : Int32)) F d_Painter_forgetCounts_6 (by decide) ?_
  refine cp_Painter_rowsInFrame (pc := 7) F tw_80 d_Painter_forgetCounts_7 ?_
  refine gw_nS (fun S7 E7 => ?_)
  exact gw_vret (pc := 10) F d_Painter_forgetCounts_10
set_option maxHeartbeats 4000000 in
set_option maxRecDepth 100000 in
theorem po_ok_Painter_forgetCounts   (S : gw_S)  (hf_ok : cOK S) : cOK (f_Painter_forgetCounts S).2 := by
  unfold f_Painter_forgetCounts
  refine po_n (Φ := fun p : Unit × gw_S => cOK p.2) (fun S2 E2 => ?_)
  refine po_n (Φ := fun p : Unit × gw_S => cOK p.2) (fun S7 E7 => ?_)
  exact (cOK_o E7 (cOK_o E2 hf_ok (by omega)) (by omega))
def f_Painter_edgeAt   (S : gw_S) (a1 : Int32) (a2 : Int64) (a3 : Int32) : Int32 × gw_S := (((((((((65536 : Int64) * ((a1 : Int32).toInt64)) + (32768 : Int64)) + (((a3 : Int32).toInt64) * a2)) >>> (((16 : Int32) : Int32).toInt64 &&& 63)) : Int64).toInt32), S))
set_option maxHeartbeats 4000000 in
set_option maxRecDepth 100000 in
theorem c_Painter_edgeAt (hJ : gw_J 46 ad)   (S : gw_S) (a1 : Int32) (a2 : Int64) (a3 : Int32) : gw_M l y_Painter_edgeAt prog_5_method_8_code 4 (some .int) gTs (gw_rm 0) D gCl (gTys cI cB cC cZ) 46 ad (cE ad cI cB cC) gw_rI [.int a1, .long a2, .int a3] S (f_Painter_edgeAt S a1 a2 a3) := by
  refine gw_start gTs_ok (plainFor_of_name (by decide)) hJ (Nat.le_of_ble_eq_true rfl) (fun X A F => ?_)
  refine gw_lve (lv' := [(0, .int a1), (1, .long a2), (3, .int a3)]) rfl ?_
  unfold f_Painter_edgeAt
  refine gw_ldc2 (pc := 0) (v := (65536 : Int64)) F tw_359 d_Painter_edgeAt_0 ?_
  refine gw_iload_n (pc := 3) F 0 d_Painter_edgeAt_3 rfl rfl ?_
  refine gw_i2l (pc := 4) F d_Painter_edgeAt_4 ?_
  refine gw_lmul (pc := 5) F d_Painter_edgeAt_5 ?_
  refine gw_ldc2 (pc := 6) (v := (32768 : Int64)) F tw_372 d_Painter_edgeAt_6 ?_
  refine gw_ladd (pc := 9) F d_Painter_edgeAt_9 ?_
  refine gw_iload_n (pc := 10) F 2 d_Painter_edgeAt_10 rfl rfl ?_
  refine gw_i2l (pc := 11) F d_Painter_edgeAt_11 ?_
  refine gw_lload_n (pc := 12) F 1 d_Painter_edgeAt_12 rfl rfl ?_
  refine gw_lmul (pc := 13) F d_Painter_edgeAt_13 ?_
  refine gw_ladd (pc := 14) F d_Painter_edgeAt_14 ?_
  refine gw_bipush (pc := 15) (v := (16 : Int32)) F d_Painter_edgeAt_15 (by decide) ?_
  refine gw_lshr (pc := 17) F d_Painter_edgeAt_17 ?_
  refine gw_l2i (pc := 18) F d_Painter_edgeAt_18 ?_
  exact gw_iret (pc := 19) F d_Painter_edgeAt_19
set_option maxHeartbeats 4000000 in
set_option maxRecDepth 100000 in
theorem po_ok_Painter_edgeAt   (S : gw_S) (a1 : Int32) (a2 : Int64) (a3 : Int32) (hf_ok : cOK S) : cOK (f_Painter_edgeAt S a1 a2 a3).2 := by
  unfold f_Painter_edgeAt
  exact hf_ok
def f_Player_end   (S : gw_S)  : Unit × gw_S := (gw_n (gw_u S 1 4 (-1 : Int32)) fun S2 => gw_n (gw_u S2 1 5 (0 : Int32)) fun S7 => ((), S7))
set_option maxHeartbeats 4000000 in
set_option maxRecDepth 100000 in
theorem c_Player_end (hJ : gw_J 46 ad)   (S : gw_S)  : gw_M l y_Player_end prog_6_method_16_code 1 none gTs (gw_rm 0) D gCl (gTys cI cB cC cZ) 46 ad (cE ad cI cB cC) gw_rV [.ref (ad 1)] S (f_Player_end S) := by
  refine gw_start gTs_ok (plainFor_of_name (by decide)) hJ (Nat.le_of_ble_eq_true rfl) (fun X A F => ?_)
  refine gw_lve (lv' := [(0, .ref (ad 1))]) rfl ?_
  unfold f_Player_end
  refine gw_aload_n (pc := 0) F 0 d_Player_end_0 rfl rfl ?_
  refine gw_iconst (pc := 1) (v := (-1 : Int32)) F d_Player_end_1 (by decide) ?_
  refine cp_Player_at (pc := 2) F tw_143 d_Player_end_2 ?_
  refine gw_nS (fun S2 E2 => ?_)
  refine gw_aload_n (pc := 5) F 0 d_Player_end_5 rfl rfl ?_
  refine gw_iconst (pc := 6) (v := (0 : Int32)) F d_Player_end_6 (by decide) ?_
  refine cp_Player_goingOn (pc := 7) F tw_144 d_Player_end_7 rfl rfl ?_
  refine gw_nS (fun S7 E7 => ?_)
  exact gw_vret (pc := 10) F d_Player_end_10
set_option maxHeartbeats 4000000 in
set_option maxRecDepth 100000 in
theorem po_ok_Player_end   (S : gw_S)  (hf_ok : cOK S) : cOK (f_Player_end S).2 := by
  unfold f_Player_end
  refine po_n (Φ := fun p : Unit × gw_S => cOK p.2) (fun S2 E2 => ?_)
  refine po_n (Φ := fun p : Unit × gw_S => cOK p.2) (fun S7 E7 => ?_)
  exact (cOK_o E7 (cOK_o E2 hf_ok (by omega)) (by omega))
def f_Player_store   (S : gw_S) (a1 : Int32) (a2 : Int32) : Unit × gw_S := (gw_n (gw_u S 4 (a1 : Int32).toNatClampNeg ((a2 : Int32).toInt16.toInt32)) fun S7 => ((), S7))
set_option maxHeartbeats 4000000 in
set_option maxRecDepth 100000 in
theorem c_Player_store (hJ : gw_J 46 ad)   (S : gw_S) (a1 : Int32) (a2 : Int32) (hb1 : vp_in a1 32) : gw_M l y_Player_store prog_6_method_17_code 3 none gTs (gw_rm 0) D gCl (gTys cI cB cC cZ) 46 ad (cE ad cI cB cC) gw_rV [.ref (ad 1), .int a1, .int a2] S (f_Player_store S a1 a2) := by
  refine gw_start gTs_ok (plainFor_of_name (by decide)) hJ (Nat.le_of_ble_eq_true rfl) (fun X A F => ?_)
  refine gw_lve (lv' := [(0, .ref (ad 1)), (1, .int a1), (2, .int a2)]) rfl ?_
  unfold f_Player_store
  refine gw_aload_n (pc := 0) F 0 d_Player_store_0 rfl rfl ?_
  refine cg_Player_variables (pc := 1) F tw_137 d_Player_store_1 ?_
  refine gw_iload_n (pc := 4) F 1 d_Player_store_4 rfl rfl ?_
  refine gw_iload_n (pc := 5) F 2 d_Player_store_5 rfl rfl ?_
  refine gw_i2s (pc := 6) F d_Player_store_6 ?_
  refine cs_Vars (pc := 7) F hb1 d_Player_store_7 ?_
  refine gw_nS (fun S7 E7 => ?_)
  exact gw_vret (pc := 8) F d_Player_store_8
set_option maxHeartbeats 4000000 in
set_option maxRecDepth 100000 in
theorem po_ok_Player_store   (S : gw_S) (a1 : Int32) (a2 : Int32) (hf_ok : cOK S) (hb1 : vp_in a1 32) : cOK (f_Player_store S a1 a2).2 := by
  unfold f_Player_store
  refine po_n (Φ := fun p : Unit × gw_S => cOK p.2) (fun S7 E7 => ?_)
  exact (cOK_v E7 hf_ok (cSh_w _))
def f_Player_nextByte   (S : gw_S)  : Int32 × gw_S := (gw_b (f_Bytes_read 2 S (S 1 4)) fun r8 S8 => gw_n (gw_u S8 1 4 (((S8 1 4) + (1 : Int32)) &&& (1023 : Int32))) fun S23 => (r8, S23))
set_option maxHeartbeats 4000000 in
set_option maxRecDepth 100000 in
theorem c_Player_nextByte (hJ : gw_J 46 ad)   (S : gw_S)  : gw_M l y_Player_nextByte prog_6_method_18_code 2 (some .int) gTs (gw_rm 1) D gCl (gTys cI cB cC cZ) 46 ad (cE ad cI cB cC) gw_rI [.ref (ad 1)] S (f_Player_nextByte S) := by
  refine gw_start gTs_ok (plainFor_of_name (by decide)) hJ (Nat.le_of_ble_eq_true rfl) (fun X A F => ?_)
  refine gw_lve (lv' := [(0, .ref (ad 1))]) rfl ?_
  unfold f_Player_nextByte
  refine gw_aload_n (pc := 0) F 0 d_Player_nextByte_0 rfl rfl ?_
  refine cg_Player_program (pc := 1) F tw_135 d_Player_nextByte_1 ?_
  refine gw_aload_n (pc := 4) F 0 d_Player_nextByte_4 rfl rfl ?_
  refine cg_Player_at (pc := 5) F tw_143 d_Player_nextByte_5 ?_
  refine gw_cV (pc := 8) (As := [.int (S 1 4)]) (rest := []) F (c_Bytes_read (gw_FJ F) (Or.inl rfl) S (S 1 4)) cw_Bytes_read cv_Bytes_read tw_231 rfl (by decide) (by decide) (chi_Bytes (Or.inl rfl)) (cE_Bytes (Or.inl rfl)) rfl rfl rfl rfl (Nat.le_of_ble_eq_true rfl) d_Player_nextByte_8 (gw_bI (P := fun r U => True) trivial (fun r8 S8 p8 => ?_))
  refine gw_istore_n (pc := 11) (lv' := [(1, .int r8), (0, .ref (ad 1))]) F d_Player_nextByte_11 rfl (by decide) rfl ?_
  refine gw_aload_n (pc := 12) F 1 d_Player_nextByte_12 rfl rfl ?_
  refine gw_aload_n (pc := 13) F 1 d_Player_nextByte_13 rfl rfl ?_
  refine cg_Player_at (pc := 14) F tw_143 d_Player_nextByte_14 ?_
  refine gw_iconst (pc := 17) (v := (1 : Int32)) F d_Player_nextByte_17 (by decide) ?_
  refine gw_iadd (pc := 18) F d_Player_nextByte_18 ?_
  refine gw_sipush (pc := 19) (v := (1023 : Int32)) F d_Player_nextByte_19 (by decide) ?_
  refine gw_iand (pc := 22) F d_Player_nextByte_22 ?_
  refine cp_Player_at (pc := 23) F tw_143 d_Player_nextByte_23 ?_
  refine gw_nS (fun S23 E23 => ?_)
  refine gw_iload_n (pc := 26) F 0 d_Player_nextByte_26 rfl rfl ?_
  exact gw_iret (pc := 27) F d_Player_nextByte_27
set_option maxHeartbeats 4000000 in
set_option maxRecDepth 100000 in
theorem po_ok_Player_nextByte   (S : gw_S)  (hf_ok : cOK S) : cOK (f_Player_nextByte S).2 := by
  unfold f_Player_nextByte
  refine po_b (Φ := fun p : Int32 × gw_S => cOK p.2) (P := fun r U => cOK U ∧ vp_in r 256) ⟨(po_ok_Bytes_read (Or.inl rfl) S (S 1 4) hf_ok), (cb_read (Or.inl rfl) S (S 1 4) hf_ok)⟩ (fun r8 S8 p8 => ?_)
  refine po_n (Φ := fun p : Int32 × gw_S => cOK p.2) (fun S23 E23 => ?_)
  exact (cOK_o E23 p8.1 (by omega))
def f_Player_nextPair   (S : gw_S)  : Int32 × gw_S := (gw_b (f_Bytes_readPair 2 S (S 1 4)) fun r8 S8 => gw_n (gw_u S8 1 4 (((S8 1 4) + (2 : Int32)) &&& (1023 : Int32))) fun S23 => (r8, S23))
set_option maxHeartbeats 4000000 in
set_option maxRecDepth 100000 in
theorem c_Player_nextPair (hJ : gw_J 46 ad)   (S : gw_S)  : gw_M l y_Player_nextPair prog_6_method_19_code 2 (some .int) gTs (gw_rm 1) D gCl (gTys cI cB cC cZ) 46 ad (cE ad cI cB cC) gw_rI [.ref (ad 1)] S (f_Player_nextPair S) := by
  refine gw_start gTs_ok (plainFor_of_name (by decide)) hJ (Nat.le_of_ble_eq_true rfl) (fun X A F => ?_)
  refine gw_lve (lv' := [(0, .ref (ad 1))]) rfl ?_
  unfold f_Player_nextPair
  refine gw_aload_n (pc := 0) F 0 d_Player_nextPair_0 rfl rfl ?_
  refine cg_Player_program (pc := 1) F tw_135 d_Player_nextPair_1 ?_
  refine gw_aload_n (pc := 4) F 0 d_Player_nextPair_4 rfl rfl ?_
  refine cg_Player_at (pc := 5) F tw_143 d_Player_nextPair_5 ?_
  refine gw_cV (pc := 8) (As := [.int (S 1 4)]) (rest := []) F (c_Bytes_readPair (gw_FJ F) (Or.inl rfl) S (S 1 4)) cw_Bytes_readPair cv_Bytes_readPair tw_248 rfl (by decide) (by decide) (chi_Bytes (Or.inl rfl)) (cE_Bytes (Or.inl rfl)) rfl rfl rfl rfl (Nat.le_of_ble_eq_true rfl) d_Player_nextPair_8 (gw_bI (P := fun r U => True) trivial (fun r8 S8 p8 => ?_))
  refine gw_istore_n (pc := 11) (lv' := [(1, .int r8), (0, .ref (ad 1))]) F d_Player_nextPair_11 rfl (by decide) rfl ?_
  refine gw_aload_n (pc := 12) F 1 d_Player_nextPair_12 rfl rfl ?_
  refine gw_aload_n (pc := 13) F 1 d_Player_nextPair_13 rfl rfl ?_
  refine cg_Player_at (pc := 14) F tw_143 d_Player_nextPair_14 ?_
  refine gw_iconst (pc := 17) (v := (2 : Int32)) F d_Player_nextPair_17 (by decide) ?_
  refine gw_iadd (pc := 18) F d_Player_nextPair_18 ?_
  refine gw_sipush (pc := 19) (v := (1023 : Int32)) F d_Player_nextPair_19 (by decide) ?_
  refine gw_iand (pc := 22) F d_Player_nextPair_22 ?_
  refine cp_Player_at (pc := 23) F tw_143 d_Player_nextPair_23 ?_
  refine gw_nS (fun S23 E23 => ?_)
  refine gw_iload_n (pc := 26) F 0 d_Player_nextPair_26 rfl rfl ?_
  exact gw_iret (pc := 27) F d_Player_nextPair_27
set_option maxHeartbeats 4000000 in
set_option maxRecDepth 100000 in
theorem po_ok_Player_nextPair   (S : gw_S)  (hf_ok : cOK S) : cOK (f_Player_nextPair S).2 := by
  unfold f_Player_nextPair
  refine po_b (Φ := fun p : Int32 × gw_S => cOK p.2) (P := fun r U => cOK U) (po_ok_Bytes_readPair (Or.inl rfl) S (S 1 4) hf_ok) (fun r8 S8 p8 => ?_)
  refine po_n (Φ := fun p : Int32 × gw_S => cOK p.2) (fun S23 E23 => ?_)
  exact (cOK_o E23 p8 (by omega))
def f_Player_nextVariable   (S : gw_S)  : Int32 × gw_S := (gw_b (f_Player_nextByte S) fun r1 S1 => ((r1 &&& (31 : Int32)), S1))
set_option maxHeartbeats 4000000 in
set_option maxRecDepth 100000 in
theorem c_Player_nextVariable (hJ : gw_J 46 ad)   (S : gw_S)  : gw_M l y_Player_nextVariable prog_6_method_20_code 1 (some .int) gTs (gw_rm 2) D gCl (gTys cI cB cC cZ) 46 ad (cE ad cI cB cC) gw_rI [.ref (ad 1)] S (f_Player_nextVariable S) := by
  refine gw_start gTs_ok (plainFor_of_name (by decide)) hJ (Nat.le_of_ble_eq_true rfl) (fun X A F => ?_)
  refine gw_lve (lv' := [(0, .ref (ad 1))]) rfl ?_
  unfold f_Player_nextVariable
  refine gw_aload_n (pc := 0) F 0 d_Player_nextVariable_0 rfl rfl ?_
  refine gw_cV (pc := 1) (As := []) (rest := []) F (c_Player_nextByte (gw_FJ F) S) cw_Player_nextByte cv_Player_nextByte tw_227 rfl (by decide) (by decide) (by decide) cE_Player rfl rfl rfl rfl (Nat.le_of_ble_eq_true rfl) d_Player_nextVariable_1 (gw_bI (P := fun r U => True) trivial (fun r1 S1 p1 => ?_))
  refine gw_bipush (pc := 4) (v := (31 : Int32)) F d_Player_nextVariable_4 (by decide) ?_
  refine gw_iand (pc := 6) F d_Player_nextVariable_6 ?_
  exact gw_iret (pc := 7) F d_Player_nextVariable_7
theorem cb_nextVariable (S : gw_S) : vp_in (f_Player_nextVariable S).1 32 := gw_and31 _
set_option maxHeartbeats 4000000 in
set_option maxRecDepth 100000 in
theorem po_ok_Player_nextVariable   (S : gw_S)  (hf_ok : cOK S) : cOK (f_Player_nextVariable S).2 := by
  unfold f_Player_nextVariable
  refine po_b (Φ := fun p : Int32 × gw_S => cOK p.2) (P := fun r U => cOK U) (po_ok_Player_nextByte S hf_ok) (fun r1 S1 p1 => ?_)
  exact p1
def f_Player_nextNumber   (S : gw_S)  : Int32 × gw_S := (gw_b (f_Player_nextPair S) fun r1 S1 => (((r1 : Int32).toInt16.toInt32), S1))
set_option maxHeartbeats 4000000 in
set_option maxRecDepth 100000 in
theorem c_Player_nextNumber (hJ : gw_J 46 ad)   (S : gw_S)  : gw_M l y_Player_nextNumber prog_6_method_21_code 1 (some .int) gTs (gw_rm 2) D gCl (gTys cI cB cC cZ) 46 ad (cE ad cI cB cC) gw_rI [.ref (ad 1)] S (f_Player_nextNumber S) := by
  refine gw_start gTs_ok (plainFor_of_name (by decide)) hJ (Nat.le_of_ble_eq_true rfl) (fun X A F => ?_)
  refine gw_lve (lv' := [(0, .ref (ad 1))]) rfl ?_
  unfold f_Player_nextNumber
  refine gw_aload_n (pc := 0) F 0 d_Player_nextNumber_0 rfl rfl ?_
  refine gw_cV (pc := 1) (As := []) (rest := []) F (c_Player_nextPair (gw_FJ F) S) cw_Player_nextPair cv_Player_nextPair tw_244 rfl (by decide) (by decide) (by decide) cE_Player rfl rfl rfl rfl (Nat.le_of_ble_eq_true rfl) d_Player_nextNumber_1 (gw_bI (P := fun r U => True) trivial (fun r1 S1 p1 => ?_))
  refine gw_i2s (pc := 4) F d_Player_nextNumber_4 ?_
  exact gw_iret (pc := 5) F d_Player_nextNumber_5
set_option maxHeartbeats 4000000 in
set_option maxRecDepth 100000 in
theorem po_ok_Player_nextNumber   (S : gw_S)  (hf_ok : cOK S) : cOK (f_Player_nextNumber S).2 := by
  unfold f_Player_nextNumber
  refine po_b (Φ := fun p : Int32 × gw_S => cOK p.2) (P := fun r U => cOK U) (po_ok_Player_nextPair S hf_ok) (fun r1 S1 p1 => ?_)
  exact p1
def f_Player_nextAddress   (S : gw_S)  : Int32 × gw_S := (gw_b (f_Player_nextPair S) fun r1 S1 => ((r1 &&& (1023 : Int32)), S1))
set_option maxHeartbeats 4000000 in
set_option maxRecDepth 100000 in
theorem c_Player_nextAddress (hJ : gw_J 46 ad)   (S : gw_S)  : gw_M l y_Player_nextAddress prog_6_method_22_code 1 (some .int) gTs (gw_rm 2) D gCl (gTys cI cB cC cZ) 46 ad (cE ad cI cB cC) gw_rI [.ref (ad 1)] S (f_Player_nextAddress S) := by
  refine gw_start gTs_ok (plainFor_of_name (by decide)) hJ (Nat.le_of_ble_eq_true rfl) (fun X A F => ?_)
  refine gw_lve (lv' := [(0, .ref (ad 1))]) rfl ?_
  unfold f_Player_nextAddress
  refine gw_aload_n (pc := 0) F 0 d_Player_nextAddress_0 rfl rfl ?_
  refine gw_cV (pc := 1) (As := []) (rest := []) F (c_Player_nextPair (gw_FJ F) S) cw_Player_nextPair cv_Player_nextPair tw_244 rfl (by decide) (by decide) (by decide) cE_Player rfl rfl rfl rfl (Nat.le_of_ble_eq_true rfl) d_Player_nextAddress_1 (gw_bI (P := fun r U => True) trivial (fun r1 S1 p1 => ?_))
  refine gw_sipush (pc := 4) (v := (1023 : Int32)) F d_Player_nextAddress_4 (by decide) ?_
  refine gw_iand (pc := 7) F d_Player_nextAddress_7 ?_
  exact gw_iret (pc := 8) F d_Player_nextAddress_8
set_option maxHeartbeats 4000000 in
set_option maxRecDepth 100000 in
theorem po_ok_Player_nextAddress   (S : gw_S)  (hf_ok : cOK S) : cOK (f_Player_nextAddress S).2 := by
  unfold f_Player_nextAddress
  refine po_b (Φ := fun p : Int32 × gw_S => cOK p.2) (P := fun r U => cOK U) (po_ok_Player_nextPair S hf_ok) (fun r1 S1 p1 => ?_)
  exact p1
def f_Player_fail  (j : Nat) (S : gw_S) (a2 : Int32) : Unit × gw_S := (gw_n (gw_u S (j + 14) 4 a2) fun S2 => gw_b (f_Player_end S2) fun _ S6 => ((), S6))
set_option maxHeartbeats 4000000 in
set_option maxRecDepth 100000 in
theorem c_Player_fail (hJ : gw_J 46 ad)  {j : Nat} (hj : j < 16) (S : gw_S) (a2 : Int32) : gw_M l y_Player_fail prog_6_method_15_code 3 none gTs (gw_rm 1) D gCl (gTys cI cB cC cZ) 46 ad (cE ad cI cB cC) gw_rV [.ref (ad 1), .ref (ad (j + 14)), .int a2] S (f_Player_fail j S a2) := by
  refine gw_start gTs_ok (plainFor_of_name (by decide)) hJ (Nat.le_of_ble_eq_true rfl) (fun X A F => ?_)
  refine gw_lve (lv' := [(0, .ref (ad 1)), (1, .ref (ad (j + 14))), (2, .int a2)]) rfl ?_
  unfold f_Player_fail
  refine gw_aload_n (pc := 0) F 1 d_Player_fail_0 rfl rfl ?_
  refine gw_iload_n (pc := 1) F 2 d_Player_fail_1 rfl rfl ?_
  refine cpN_Channel_latestFault (pc := 2) F hj tw_114 d_Player_fail_2 ?_
  refine gw_nS (fun S2 E2 => ?_)
  refine gw_aload_n (pc := 5) F 0 d_Player_fail_5 rfl rfl ?_
  refine gw_cV (pc := 6) (As := []) (rest := []) F (c_Player_end (gw_FJ F) S2) cw_Player_end cv_Player_end tw_272 rfl (by decide) (by decide) (by decide) cE_Player rfl rfl rfl rfl (Nat.le_of_ble_eq_true rfl) d_Player_fail_6 (gw_bV (P := fun _ U => True) trivial (fun _ S6 p6 => ?_))
  exact gw_vret (pc := 9) F d_Player_fail_9
set_option maxHeartbeats 4000000 in
set_option maxRecDepth 100000 in
theorem po_ok_Player_fail  {j : Nat} (hj : j < 16) (S : gw_S) (a2 : Int32) (hf_ok : cOK S) : cOK (f_Player_fail j S a2).2 := by
  unfold f_Player_fail
  refine po_n (Φ := fun p : Unit × gw_S => cOK p.2) (fun S2 E2 => ?_)
  refine po_b (Φ := fun p : Unit × gw_S => cOK p.2) (P := fun _ U => cOK U) (po_ok_Player_end S2 (cOK_o E2 hf_ok (by omega))) (fun _ S6 p6 => ?_)
  exact p6
def f_Player_compares   (S : gw_S) (a1 : Int32) (a2 : Int32) (a3 : Int32) : Int32 × gw_S := (if a1 = 0 then (if a2 = a3 then (((1 : Int32), S)) else (((0 : Int32), S))) else (if a1 = 1 then (if a2 = a3 then (((0 : Int32), S)) else (((1 : Int32), S))) else (if a1 = 2 then (if a2 ≤ a3 then (((0 : Int32), S)) else (((1 : Int32), S))) else (if a1 = 3 then (if a2 < a3 then (((0 : Int32), S)) else (((1 : Int32), S))) else (if a1 = 4 then (if a3 ≤ a2 then (((0 : Int32), S)) else (((1 : Int32), S))) else (if a3 < a2 then (((0 : Int32), S)) else (((1 : Int32), S))))))))
set_option maxHeartbeats 4000000 in
set_option maxRecDepth 100000 in
theorem c_Player_compares (hJ : gw_J 46 ad)   (S : gw_S) (a1 : Int32) (a2 : Int32) (a3 : Int32) : gw_M l y_Player_compares prog_6_method_10_code 3 (some .boolean) gTs (gw_rm 0) D gCl (gTys cI cB cC cZ) 46 ad (cE ad cI cB cC) gw_rI [.int a1, .int a2, .int a3] S (f_Player_compares S a1 a2 a3) := by
  refine gw_start gTs_ok (plainFor_of_name (by decide)) hJ (Nat.le_of_ble_eq_true rfl) (fun X A F => ?_)
  refine gw_lve (lv' := [(0, .int a1), (1, .int a2), (2, .int a3)]) rfl ?_
  unfold f_Player_compares
  refine gw_iload_n (pc := 0) F 0 d_Player_compares_0 rfl rfl ?_
  refine gw_spl (fun h1_0 => ?_) (fun h1_0 => ?_)
  · refine gw_tableIn (pc := 1) (tgt := 36) F d_Player_compares_1 h1_0 (by decide) (by decide) rfl (by decide) ?_
    refine gw_iload_n (pc := 36) F 1 d_Player_compares_36 rfl rfl ?_
    refine gw_iload_n (pc := 37) F 2 d_Player_compares_37 rfl rfl ?_
    refine gw_icmp_neS (pc := 38) (tgt := 45) F d_Player_compares_38 (by decide) (fun h38 => ?_) (fun h38 => ?_)
    · refine gw_iconst (pc := 45) (v := (0 : Int32)) F d_Player_compares_45 (by decide) ?_
      exact gw_zret (pc := 46) F d_Player_compares_46 rfl
    · refine gw_iconst (pc := 41) (v := (1 : Int32)) F d_Player_compares_41 (by decide) ?_
      refine gw_goto (pc := 42) (tgt := 46) F d_Player_compares_42 (by decide) ?_
      exact gw_zret (pc := 46) F d_Player_compares_46 rfl
  refine gw_spl (fun h1_1 => ?_) (fun h1_1 => ?_)
  · refine gw_tableIn (pc := 1) (tgt := 47) F d_Player_compares_1 h1_1 (by decide) (by decide) rfl (by decide) ?_
    refine gw_iload_n (pc := 47) F 1 d_Player_compares_47 rfl rfl ?_
    refine gw_iload_n (pc := 48) F 2 d_Player_compares_48 rfl rfl ?_
    refine gw_icmp_eqS (pc := 49) (tgt := 56) F d_Player_compares_49 (by decide) (fun h49 => ?_) (fun h49 => ?_)
    · refine gw_iconst (pc := 56) (v := (0 : Int32)) F d_Player_compares_56 (by decide) ?_
      exact gw_zret (pc := 57) F d_Player_compares_57 rfl
    · refine gw_iconst (pc := 52) (v := (1 : Int32)) F d_Player_compares_52 (by decide) ?_
      refine gw_goto (pc := 53) (tgt := 57) F d_Player_compares_53 (by decide) ?_
      exact gw_zret (pc := 57) F d_Player_compares_57 rfl
  refine gw_spl (fun h1_2 => ?_) (fun h1_2 => ?_)
  · refine gw_tableIn (pc := 1) (tgt := 58) F d_Player_compares_1 h1_2 (by decide) (by decide) rfl (by decide) ?_
    refine gw_iload_n (pc := 58) F 1 d_Player_compares_58 rfl rfl ?_
    refine gw_iload_n (pc := 59) F 2 d_Player_compares_59 rfl rfl ?_
    refine gw_icmp_leS (pc := 60) (tgt := 67) F d_Player_compares_60 (by decide) (fun h60 => ?_) (fun h60 => ?_)
    · refine gw_iconst (pc := 67) (v := (0 : Int32)) F d_Player_compares_67 (by decide) ?_
      exact gw_zret (pc := 68) F d_Player_compares_68 rfl
    · refine gw_iconst (pc := 63) (v := (1 : Int32)) F d_Player_compares_63 (by decide) ?_
      refine gw_goto (pc := 64) (tgt := 68) F d_Player_compares_64 (by decide) ?_
      exact gw_zret (pc := 68) F d_Player_compares_68 rfl
  refine gw_spl (fun h1_3 => ?_) (fun h1_3 => ?_)
  · refine gw_tableIn (pc := 1) (tgt := 69) F d_Player_compares_1 h1_3 (by decide) (by decide) rfl (by decide) ?_
    refine gw_iload_n (pc := 69) F 1 d_Player_compares_69 rfl rfl ?_
    refine gw_iload_n (pc := 70) F 2 d_Player_compares_70 rfl rfl ?_
    refine gw_icmp_ltS (pc := 71) (tgt := 78) F d_Player_compares_71 (by decide) (fun h71 => ?_) (fun h71 => ?_)
    · refine gw_iconst (pc := 78) (v := (0 : Int32)) F d_Player_compares_78 (by decide) ?_
      exact gw_zret (pc := 79) F d_Player_compares_79 rfl
    · refine gw_iconst (pc := 74) (v := (1 : Int32)) F d_Player_compares_74 (by decide) ?_
      refine gw_goto (pc := 75) (tgt := 79) F d_Player_compares_75 (by decide) ?_
      exact gw_zret (pc := 79) F d_Player_compares_79 rfl
  refine gw_spl (fun h1_4 => ?_) (fun h1_4 => ?_)
  · refine gw_tableIn (pc := 1) (tgt := 80) F d_Player_compares_1 h1_4 (by decide) (by decide) rfl (by decide) ?_
    refine gw_iload_n (pc := 80) F 1 d_Player_compares_80 rfl rfl ?_
    refine gw_iload_n (pc := 81) F 2 d_Player_compares_81 rfl rfl ?_
    refine gw_icmp_geS (pc := 82) (tgt := 89) F d_Player_compares_82 (by decide) (fun h82 => ?_) (fun h82 => ?_)
    · refine gw_iconst (pc := 89) (v := (0 : Int32)) F d_Player_compares_89 (by decide) ?_
      exact gw_zret (pc := 90) F d_Player_compares_90 rfl
    · refine gw_iconst (pc := 85) (v := (1 : Int32)) F d_Player_compares_85 (by decide) ?_
      refine gw_goto (pc := 86) (tgt := 90) F d_Player_compares_86 (by decide) ?_
      exact gw_zret (pc := 90) F d_Player_compares_90 rfl
  refine gw_tableOut (pc := 1) (tgt := 91) F d_Player_compares_1 (by have ne_0 : ¬ (a1 : Int32).toInt = 0 := gw_ne h1_0; have ne_1 : ¬ (a1 : Int32).toInt = 1 := gw_ne h1_1; have ne_2 : ¬ (a1 : Int32).toInt = 2 := gw_ne h1_2; have ne_3 : ¬ (a1 : Int32).toInt = 3 := gw_ne h1_3; have ne_4 : ¬ (a1 : Int32).toInt = 4 := gw_ne h1_4; omega) (by decide) ?_
  refine gw_iload_n (pc := 91) F 1 d_Player_compares_91 rfl rfl ?_
  refine gw_iload_n (pc := 92) F 2 d_Player_compares_92 rfl rfl ?_
  refine gw_icmp_gtS (pc := 93) (tgt := 100) F d_Player_compares_93 (by decide) (fun h93 => ?_) (fun h93 => ?_)
  · refine gw_iconst (pc := 100) (v := (0 : Int32)) F d_Player_compares_100 (by decide) ?_
    exact gw_zret (pc := 101) F d_Player_compares_101 rfl
  · refine gw_iconst (pc := 96) (v := (1 : Int32)) F d_Player_compares_96 (by decide) ?_
    refine gw_goto (pc := 97) (tgt := 101) F d_Player_compares_97 (by decide) ?_
    exact gw_zret (pc := 101) F d_Player_compares_101 rfl
set_option maxHeartbeats 4000000 in
set_option maxRecDepth 100000 in
theorem po_ok_Player_compares   (S : gw_S) (a1 : Int32) (a2 : Int32) (a3 : Int32) (hf_ok : cOK S) : cOK (f_Player_compares S a1 a2 a3).2 := by
  unfold f_Player_compares
  refine po_if (Φ := fun p : Int32 × gw_S => cOK p.2) (fun h1_0 => ?_) (fun h1_0 => ?_)
  · refine po_if (Φ := fun p : Int32 × gw_S => cOK p.2) (fun h38 => ?_) (fun h38 => ?_)
    · exact hf_ok
    · exact hf_ok
  refine po_if (Φ := fun p : Int32 × gw_S => cOK p.2) (fun h1_1 => ?_) (fun h1_1 => ?_)
  · refine po_if (Φ := fun p : Int32 × gw_S => cOK p.2) (fun h49 => ?_) (fun h49 => ?_)
    · exact hf_ok
    · exact hf_ok
  refine po_if (Φ := fun p : Int32 × gw_S => cOK p.2) (fun h1_2 => ?_) (fun h1_2 => ?_)
  · refine po_if (Φ := fun p : Int32 × gw_S => cOK p.2) (fun h60 => ?_) (fun h60 => ?_)
    · exact hf_ok
    · exact hf_ok
  refine po_if (Φ := fun p : Int32 × gw_S => cOK p.2) (fun h1_3 => ?_) (fun h1_3 => ?_)
  · refine po_if (Φ := fun p : Int32 × gw_S => cOK p.2) (fun h71 => ?_) (fun h71 => ?_)
    · exact hf_ok
    · exact hf_ok
  refine po_if (Φ := fun p : Int32 × gw_S => cOK p.2) (fun h1_4 => ?_) (fun h1_4 => ?_)
  · refine po_if (Φ := fun p : Int32 × gw_S => cOK p.2) (fun h82 => ?_) (fun h82 => ?_)
    · exact hf_ok
    · exact hf_ok
  refine po_if (Φ := fun p : Int32 × gw_S => cOK p.2) (fun h93 => ?_) (fun h93 => ?_)
  · exact hf_ok
  · exact hf_ok
def f_Player_callAddress  (j : Nat) (S : gw_S)  : Unit × gw_S := (gw_b (f_Player_nextAddress S) fun r1 S1 => gw_b (f_Channel_pushReturn j S1 (S1 1 4)) fun r10 S10 => if r10 = 0 then (gw_b (f_Player_fail j S10 (1 : Int32)) fun _ S27 => ((), S27)) else (gw_n (gw_u S10 1 4 r1) fun S18 => ((), S18)))
set_option maxHeartbeats 4000000 in
set_option maxRecDepth 100000 in
theorem c_Player_callAddress (hJ : gw_J 46 ad)  {j : Nat} (hj : j < 16) (S : gw_S)  : gw_M l y_Player_callAddress prog_6_method_5_code 3 none gTs (gw_rm 3) D gCl (gTys cI cB cC cZ) 46 ad (cE ad cI cB cC) gw_rV [.ref (ad 1), .ref (ad (j + 14))] S (f_Player_callAddress j S) := by
  refine gw_start gTs_ok (plainFor_of_name (by decide)) hJ (Nat.le_of_ble_eq_true rfl) (fun X A F => ?_)
  refine gw_lve (lv' := [(0, .ref (ad 1)), (1, .ref (ad (j + 14)))]) rfl ?_
  unfold f_Player_callAddress
  refine gw_aload_n (pc := 0) F 0 d_Player_callAddress_0 rfl rfl ?_
  refine gw_cV (pc := 1) (As := []) (rest := []) F (c_Player_nextAddress (gw_FJ F) S) cw_Player_nextAddress cv_Player_nextAddress tw_256 rfl (by decide) (by decide) (by decide) cE_Player rfl rfl rfl rfl (Nat.le_of_ble_eq_true rfl) d_Player_callAddress_1 (gw_bI (P := fun r U => True) trivial (fun r1 S1 p1 => ?_))
  refine gw_istore_n (pc := 4) (lv' := [(2, .int r1), (0, .ref (ad 1)), (1, .ref (ad (j + 14)))]) F d_Player_callAddress_4 rfl (by decide) rfl ?_
  refine gw_aload_n (pc := 5) F 2 d_Player_callAddress_5 rfl rfl ?_
  refine gw_aload_n (pc := 6) F 1 d_Player_callAddress_6 rfl rfl ?_
  refine cg_Player_at (pc := 7) F tw_143 d_Player_callAddress_7 ?_
  refine gw_cV (pc := 10) (As := [.int (S1 1 4)]) (rest := []) F (c_Channel_pushReturn (gw_FJ F) hj S1 (S1 1 4)) cw_Channel_pushReturn cv_Channel_pushReturn tw_264 rfl (by decide) (by decide) (chi_Channel hj) (cE_Channel hj) rfl rfl rfl rfl (Nat.le_of_ble_eq_true rfl) d_Player_callAddress_10 (gw_bI (P := fun r U => True) trivial (fun r10 S10 p10 => ?_))
  refine gw_if_eqS (pc := 13) (tgt := 24) F d_Player_callAddress_13 (by decide) (fun h13 => ?_) (fun h13 => ?_)
  · refine gw_aload_n (pc := 24) F 1 d_Player_callAddress_24 rfl rfl ?_
    refine gw_aload_n (pc := 25) F 2 d_Player_callAddress_25 rfl rfl ?_
    refine gw_iconst (pc := 26) (v := (1 : Int32)) F d_Player_callAddress_26 (by decide) ?_
    refine gw_cV (pc := 27) (As := [.ref (ad (j + 14)), .int (1 : Int32)]) (rest := []) F (c_Player_fail (gw_FJ F) hj S10 (1 : Int32)) cw_Player_fail cv_Player_fail tw_268 rfl (by decide) (by decide) (by decide) cE_Player rfl rfl rfl rfl (Nat.le_of_ble_eq_true rfl) d_Player_callAddress_27 (gw_bV (P := fun _ U => True) trivial (fun _ S27 p27 => ?_))
    exact gw_vret (pc := 30) F d_Player_callAddress_30
  · refine gw_aload_n (pc := 16) F 1 d_Player_callAddress_16 rfl rfl ?_
    refine gw_iload_n (pc := 17) F 0 d_Player_callAddress_17 rfl rfl ?_
    refine cp_Player_at (pc := 18) F tw_143 d_Player_callAddress_18 ?_
    refine gw_nS (fun S18 E18 => ?_)
    refine gw_goto (pc := 21) (tgt := 30) F d_Player_callAddress_21 (by decide) ?_
    exact gw_vret (pc := 30) F d_Player_callAddress_30
set_option maxHeartbeats 4000000 in
set_option maxRecDepth 100000 in
theorem po_ok_Player_callAddress  {j : Nat} (hj : j < 16) (S : gw_S)  (hf_ok : cOK S) : cOK (f_Player_callAddress j S).2 := by
  unfold f_Player_callAddress
  refine po_b (Φ := fun p : Unit × gw_S => cOK p.2) (P := fun r U => cOK U) (po_ok_Player_nextAddress S hf_ok) (fun r1 S1 p1 => ?_)
  refine po_b (Φ := fun p : Unit × gw_S => cOK p.2) (P := fun r U => cOK U) (po_ok_Channel_pushReturn hj S1 (S1 1 4) p1) (fun r10 S10 p10 => ?_)
  refine po_if (Φ := fun p : Unit × gw_S => cOK p.2) (fun h13 => ?_) (fun h13 => ?_)
  · refine po_b (Φ := fun p : Unit × gw_S => cOK p.2) (P := fun _ U => cOK U) (po_ok_Player_fail hj S10 (1 : Int32) p10) (fun _ S27 p27 => ?_)
    exact p27
  · refine po_n (Φ := fun p : Unit × gw_S => cOK p.2) (fun S18 E18 => ?_)
    exact (cOK_o E18 p10 (by omega))
def f_Player_comeBack  (j : Nat) (S : gw_S)  : Unit × gw_S := (gw_b (f_Channel_popReturn j S) fun r1 S1 => if r1 = (-1 : Int32) then (gw_b (f_Player_fail j S1 (2 : Int32)) fun _ S13 => ((), S13)) else (gw_n (gw_u S1 1 4 r1) fun S21 => ((), S21)))
set_option maxHeartbeats 4000000 in
set_option maxRecDepth 100000 in
theorem c_Player_comeBack (hJ : gw_J 46 ad)  {j : Nat} (hj : j < 16) (S : gw_S)  : gw_M l y_Player_comeBack prog_6_method_6_code 3 none gTs (gw_rm 2) D gCl (gTys cI cB cC cZ) 46 ad (cE ad cI cB cC) gw_rV [.ref (ad 1), .ref (ad (j + 14))] S (f_Player_comeBack j S) := by
  refine gw_start gTs_ok (plainFor_of_name (by decide)) hJ (Nat.le_of_ble_eq_true rfl) (fun X A F => ?_)
  refine gw_lve (lv' := [(0, .ref (ad 1)), (1, .ref (ad (j + 14)))]) rfl ?_
  unfold f_Player_comeBack
  refine gw_aload_n (pc := 0) F 1 d_Player_comeBack_0 rfl rfl ?_
  refine gw_cV (pc := 1) (As := []) (rest := []) F (c_Channel_popReturn (gw_FJ F) hj S) cw_Channel_popReturn cv_Channel_popReturn tw_280 rfl (by decide) (by decide) (chi_Channel hj) (cE_Channel hj) rfl rfl rfl rfl (Nat.le_of_ble_eq_true rfl) d_Player_comeBack_1 (gw_bI (P := fun r U => True) trivial (fun r1 S1 p1 => ?_))
  refine gw_istore_n (pc := 4) (lv' := [(2, .int r1), (0, .ref (ad 1)), (1, .ref (ad (j + 14)))]) F d_Player_comeBack_4 rfl (by decide) rfl ?_
  refine gw_iload_n (pc := 5) F 0 d_Player_comeBack_5 rfl rfl ?_
  refine gw_iconst (pc := 6) (v := (-1 : Int32)) F d_Player_comeBack_6 (by decide) ?_
  refine gw_icmp_neS (pc := 7) (tgt := 19) F d_Player_comeBack_7 (by decide) (fun h7 => ?_) (fun h7 => ?_)
  · refine gw_aload_n (pc := 19) F 1 d_Player_comeBack_19 rfl rfl ?_
    refine gw_iload_n (pc := 20) F 0 d_Player_comeBack_20 rfl rfl ?_
    refine cp_Player_at (pc := 21) F tw_143 d_Player_comeBack_21 ?_
    refine gw_nS (fun S21 E21 => ?_)
    exact gw_vret (pc := 24) F d_Player_comeBack_24
  · refine gw_aload_n (pc := 10) F 1 d_Player_comeBack_10 rfl rfl ?_
    refine gw_aload_n (pc := 11) F 2 d_Player_comeBack_11 rfl rfl ?_
    refine gw_iconst (pc := 12) (v := (2 : Int32)) F d_Player_comeBack_12 (by decide) ?_
    refine gw_cV (pc := 13) (As := [.ref (ad (j + 14)), .int (2 : Int32)]) (rest := []) F (c_Player_fail (gw_FJ F) hj S1 (2 : Int32)) cw_Player_fail cv_Player_fail tw_268 rfl (by decide) (by decide) (by decide) cE_Player rfl rfl rfl rfl (Nat.le_of_ble_eq_true rfl) d_Player_comeBack_13 (gw_bV (P := fun _ U => True) trivial (fun _ S13 p13 => ?_))
    refine gw_goto (pc := 16) (tgt := 24) F d_Player_comeBack_16 (by decide) ?_
    exact gw_vret (pc := 24) F d_Player_comeBack_24
set_option maxHeartbeats 4000000 in
set_option maxRecDepth 100000 in
theorem po_ok_Player_comeBack  {j : Nat} (hj : j < 16) (S : gw_S)  (hf_ok : cOK S) : cOK (f_Player_comeBack j S).2 := by
  unfold f_Player_comeBack
  refine po_b (Φ := fun p : Unit × gw_S => cOK p.2) (P := fun r U => cOK U) (po_ok_Channel_popReturn hj S hf_ok) (fun r1 S1 p1 => ?_)
  refine po_if (Φ := fun p : Unit × gw_S => cOK p.2) (fun h7 => ?_) (fun h7 => ?_)
  · refine po_b (Φ := fun p : Unit × gw_S => cOK p.2) (P := fun _ U => cOK U) (po_ok_Player_fail hj S1 (2 : Int32) p1) (fun _ S13 p13 => ?_)
    exact p13
  · refine po_n (Φ := fun p : Unit × gw_S => cOK p.2) (fun S21 E21 => ?_)
    exact (cOK_o E21 p1 (by omega))
def f_Player_loop   (S : gw_S)  : Unit × gw_S := (gw_b (f_Player_nextVariable S) fun r1 S1 => gw_b (f_Player_nextAddress S1) fun r6 S6 => gw_b (f_Player_store S6 r1 ((S6 4 (r1 : Int32).toNatClampNeg) - (1 : Int32))) fun _ S20 => if (S20 4 (r1 : Int32).toNatClampNeg) = 0 then (((), S20)) else (gw_n (gw_u S20 1 4 r6) fun S34 => ((), S34)))
set_option maxHeartbeats 4000000 in
set_option maxRecDepth 100000 in
theorem c_Player_loop (hJ : gw_J 46 ad)   (S : gw_S)  : gw_M l y_Player_loop prog_6_method_7_code 3 none gTs (gw_rm 3) D gCl (gTys cI cB cC cZ) 46 ad (cE ad cI cB cC) gw_rV [.ref (ad 1)] S (f_Player_loop S) := by
  refine gw_start gTs_ok (plainFor_of_name (by decide)) hJ (Nat.le_of_ble_eq_true rfl) (fun X A F => ?_)
  refine gw_lve (lv' := [(0, .ref (ad 1))]) rfl ?_
  unfold f_Player_loop
  refine gw_aload_n (pc := 0) F 0 d_Player_loop_0 rfl rfl ?_
  refine gw_cV (pc := 1) (As := []) (rest := []) F (c_Player_nextVariable (gw_FJ F) S) cw_Player_nextVariable cv_Player_nextVariable tw_236 rfl (by decide) (by decide) (by decide) cE_Player rfl rfl rfl rfl (Nat.le_of_ble_eq_true rfl) d_Player_loop_1 (gw_bI (P := fun r U => vp_in r 32) (cb_nextVariable S) (fun r1 S1 p1 => ?_))
  refine gw_istore_n (pc := 4) (lv' := [(1, .int r1), (0, .ref (ad 1))]) F d_Player_loop_4 rfl (by decide) rfl ?_
  refine gw_aload_n (pc := 5) F 1 d_Player_loop_5 rfl rfl ?_
  refine gw_cV (pc := 6) (As := []) (rest := []) F (c_Player_nextAddress (gw_FJ F) S1) cw_Player_nextAddress cv_Player_nextAddress tw_256 rfl (by decide) (by decide) (by decide) cE_Player rfl rfl rfl rfl (Nat.le_of_ble_eq_true rfl) d_Player_loop_6 (gw_bI (P := fun r U => True) trivial (fun r6 S6 p6 => ?_))
  refine gw_istore_n (pc := 9) (lv' := [(2, .int r6), (1, .int r1), (0, .ref (ad 1))]) F d_Player_loop_9 rfl (by decide) rfl ?_
  refine gw_aload_n (pc := 10) F 2 d_Player_loop_10 rfl rfl ?_
  refine gw_iload_n (pc := 11) F 1 d_Player_loop_11 rfl rfl ?_
  refine gw_aload_n (pc := 12) F 2 d_Player_loop_12 rfl rfl ?_
  refine cg_Player_variables (pc := 13) F tw_137 d_Player_loop_13 ?_
  refine gw_iload_n (pc := 16) F 1 d_Player_loop_16 rfl rfl ?_
  refine cl_Vars (pc := 17) F p1 d_Player_loop_17 ?_
  refine gw_iconst (pc := 18) (v := (1 : Int32)) F d_Player_loop_18 (by decide) ?_
  refine gw_isub (pc := 19) F d_Player_loop_19 ?_
  refine gw_cV (pc := 20) (As := [.int r1, .int ((S6 4 (r1 : Int32).toNatClampNeg) - (1 : Int32))]) (rest := []) F (c_Player_store (gw_FJ F) S6 r1 ((S6 4 (r1 : Int32).toNatClampNeg) - (1 : Int32)) p1) cw_Player_store cv_Player_store tw_252 rfl (by decide) (by decide) (by decide) cE_Player rfl rfl rfl rfl (Nat.le_of_ble_eq_true rfl) d_Player_loop_20 (gw_bV (P := fun _ U => True) trivial (fun _ S20 p20 => ?_))
  refine gw_aload_n (pc := 23) F 2 d_Player_loop_23 rfl rfl ?_
  refine cg_Player_variables (pc := 24) F tw_137 d_Player_loop_24 ?_
  refine gw_iload_n (pc := 27) F 1 d_Player_loop_27 rfl rfl ?_
  refine cl_Vars (pc := 28) F p1 d_Player_loop_28 ?_
  refine gw_if_eqS (pc := 29) (tgt := 37) F d_Player_loop_29 (by decide) (fun h29 => ?_) (fun h29 => ?_)
  · exact gw_vret (pc := 37) F d_Player_loop_37
  · refine gw_aload_n (pc := 32) F 2 d_Player_loop_32 rfl rfl ?_
    refine gw_iload_n (pc := 33) F 0 d_Player_loop_33 rfl rfl ?_
    refine cp_Player_at (pc := 34) F tw_143 d_Player_loop_34 ?_
    refine gw_nS (fun S34 E34 => ?_)
    exact gw_vret (pc := 37) F d_Player_loop_37
set_option maxHeartbeats 4000000 in
set_option maxRecDepth 100000 in
theorem po_ok_Player_loop   (S : gw_S)  (hf_ok : cOK S) : cOK (f_Player_loop S).2 := by
  unfold f_Player_loop
  refine po_b (Φ := fun p : Unit × gw_S => cOK p.2) (P := fun r U => cOK U ∧ vp_in r 32) ⟨(po_ok_Player_nextVariable S hf_ok), (cb_nextVariable S)⟩ (fun r1 S1 p1 => ?_)
  refine po_b (Φ := fun p : Unit × gw_S => cOK p.2) (P := fun r U => cOK U) (po_ok_Player_nextAddress S1 p1.1) (fun r6 S6 p6 => ?_)
  refine po_b (Φ := fun p : Unit × gw_S => cOK p.2) (P := fun _ U => cOK U) (po_ok_Player_store S6 r1 ((S6 4 (r1 : Int32).toNatClampNeg) - (1 : Int32)) p6 p1.2) (fun _ S20 p20 => ?_)
  refine po_if (Φ := fun p : Unit × gw_S => cOK p.2) (fun h29 => ?_) (fun h29 => ?_)
  · exact p20
  · refine po_n (Φ := fun p : Unit × gw_S => cOK p.2) (fun S34 E34 => ?_)
    exact (cOK_o E34 p20 (by omega))
def f_Player_nextCompared   (S : gw_S) (a1 : Int32) : Int32 × gw_S := (if (a1 &&& (128 : Int32)) = 0 then (if (a1 &&& (64 : Int32)) = 0 then (gw_b (f_Player_nextByte S) fun r33 S33 => (r33, S33)) else (gw_b (f_Player_nextNumber S) fun r26 S26 => (r26, S26))) else (gw_b (f_Player_nextVariable S) fun r13 S13 => ((S13 4 (r13 : Int32).toNatClampNeg), S13)))
set_option maxHeartbeats 4000000 in
set_option maxRecDepth 100000 in
theorem c_Player_nextCompared (hJ : gw_J 46 ad)   (S : gw_S) (a1 : Int32) : gw_M l y_Player_nextCompared prog_6_method_9_code 2 (some .int) gTs (gw_rm 3) D gCl (gTys cI cB cC cZ) 46 ad (cE ad cI cB cC) gw_rI [.ref (ad 1), .int a1] S (f_Player_nextCompared S a1) := by
  refine gw_start gTs_ok (plainFor_of_name (by decide)) hJ (Nat.le_of_ble_eq_true rfl) (fun X A F => ?_)
  refine gw_lve (lv' := [(0, .ref (ad 1)), (1, .int a1)]) rfl ?_
  unfold f_Player_nextCompared
  refine gw_iload_n (pc := 0) F 1 d_Player_nextCompared_0 rfl rfl ?_
  refine gw_sipush (pc := 1) (v := (128 : Int32)) F d_Player_nextCompared_1 (by decide) ?_
  refine gw_iand (pc := 4) F d_Player_nextCompared_4 ?_
  refine gw_if_eqS (pc := 5) (tgt := 18) F d_Player_nextCompared_5 (by decide) (fun h5 => ?_) (fun h5 => ?_)
  · refine gw_iload_n (pc := 18) F 1 d_Player_nextCompared_18 rfl rfl ?_
    refine gw_bipush (pc := 19) (v := (64 : Int32)) F d_Player_nextCompared_19 (by decide) ?_
    refine gw_iand (pc := 21) F d_Player_nextCompared_21 ?_
    refine gw_if_eqS (pc := 22) (tgt := 32) F d_Player_nextCompared_22 (by decide) (fun h22 => ?_) (fun h22 => ?_)
    · refine gw_aload_n (pc := 32) F 0 d_Player_nextCompared_32 rfl rfl ?_
      refine gw_cV (pc := 33) (As := []) (rest := []) F (c_Player_nextByte (gw_FJ F) S) cw_Player_nextByte cv_Player_nextByte tw_227 rfl (by decide) (by decide) (by decide) cE_Player rfl rfl rfl rfl (Nat.le_of_ble_eq_true rfl) d_Player_nextCompared_33 (gw_bI (P := fun r U => True) trivial (fun r33 S33 p33 => ?_))
      exact gw_iret (pc := 36) F d_Player_nextCompared_36
    · refine gw_aload_n (pc := 25) F 0 d_Player_nextCompared_25 rfl rfl ?_
      refine gw_cV (pc := 26) (As := []) (rest := []) F (c_Player_nextNumber (gw_FJ F) S) cw_Player_nextNumber cv_Player_nextNumber tw_240 rfl (by decide) (by decide) (by decide) cE_Player rfl rfl rfl rfl (Nat.le_of_ble_eq_true rfl) d_Player_nextCompared_26 (gw_bI (P := fun r U => True) trivial (fun r26 S26 p26 => ?_))
      refine gw_goto (pc := 29) (tgt := 36) F d_Player_nextCompared_29 (by decide) ?_
      exact gw_iret (pc := 36) F d_Player_nextCompared_36
  · refine gw_aload_n (pc := 8) F 0 d_Player_nextCompared_8 rfl rfl ?_
    refine cg_Player_variables (pc := 9) F tw_137 d_Player_nextCompared_9 ?_
    refine gw_aload_n (pc := 12) F 0 d_Player_nextCompared_12 rfl rfl ?_
    refine gw_cV (pc := 13) (As := []) (rest := [.ref (ad 4)]) F (c_Player_nextVariable (gw_FJ F) S) cw_Player_nextVariable cv_Player_nextVariable tw_236 rfl (by decide) (by decide) (by decide) cE_Player rfl rfl rfl rfl (Nat.le_of_ble_eq_true rfl) d_Player_nextCompared_13 (gw_bI (P := fun r U => vp_in r 32) (cb_nextVariable S) (fun r13 S13 p13 => ?_))
    refine cl_Vars (pc := 16) F p13 d_Player_nextCompared_16 ?_
    exact gw_iret (pc := 17) F d_Player_nextCompared_17
set_option maxHeartbeats 4000000 in
set_option maxRecDepth 100000 in
theorem po_ok_Player_nextCompared   (S : gw_S) (a1 : Int32) (hf_ok : cOK S) : cOK (f_Player_nextCompared S a1).2 := by
  unfold f_Player_nextCompared
  refine po_if (Φ := fun p : Int32 × gw_S => cOK p.2) (fun h5 => ?_) (fun h5 => ?_)
  · refine po_if (Φ := fun p : Int32 × gw_S => cOK p.2) (fun h22 => ?_) (fun h22 => ?_)
    · refine po_b (Φ := fun p : Int32 × gw_S => cOK p.2) (P := fun r U => cOK U) (po_ok_Player_nextByte S hf_ok) (fun r33 S33 p33 => ?_)
      exact p33
    · refine po_b (Φ := fun p : Int32 × gw_S => cOK p.2) (P := fun r U => cOK U) (po_ok_Player_nextNumber S hf_ok) (fun r26 S26 p26 => ?_)
      exact p26
  · refine po_b (Φ := fun p : Int32 × gw_S => cOK p.2) (P := fun r U => cOK U ∧ vp_in r 32) ⟨(po_ok_Player_nextVariable S hf_ok), (cb_nextVariable S)⟩ (fun r13 S13 p13 => ?_)
    exact p13.1
def f_Player_jumpIf  (j : Nat) (S : gw_S)  : Unit × gw_S := (gw_b (f_Player_nextByte S) fun r1 S1 => gw_b (f_Player_nextVariable S1) fun r10 S10 => gw_n (S10 4 (r10 : Int32).toNatClampNeg) fun v14 => gw_b (f_Player_nextCompared S10 r1) fun r17 S17 => gw_n (r1 &&& (7 : Int32)) fun v26 => if v26 ≤ (5 : Int32) then (gw_b (f_Player_nextAddress S17) fun r42 S42 => gw_b (f_Player_compares S42 v26 v14 r17) fun r52 S52 => if r52 = 0 then (((), S52)) else (gw_n (gw_u S52 1 4 r42) fun S61 => ((), S61))) else (gw_b (f_Player_fail j S17 (3 : Int32)) fun _ S37 => ((), S37)))
set_option maxHeartbeats 4000000 in
set_option maxRecDepth 100000 in
theorem c_Player_jumpIf (hJ : gw_J 46 ad)  {j : Nat} (hj : j < 16) (S : gw_S)  : gw_M l y_Player_jumpIf prog_6_method_8_code 7 none gTs (gw_rm 4) D gCl (gTys cI cB cC cZ) 46 ad (cE ad cI cB cC) gw_rV [.ref (ad 1), .ref (ad (j + 14))] S (f_Player_jumpIf j S) := by
  refine gw_start gTs_ok (plainFor_of_name (by decide)) hJ (Nat.le_of_ble_eq_true rfl) (fun X A F => ?_)
  refine gw_lve (lv' := [(0, .ref (ad 1)), (1, .ref (ad (j + 14)))]) rfl ?_
  unfold f_Player_jumpIf
  refine gw_aload_n (pc := 0) F 0 d_Player_jumpIf_0 rfl rfl ?_
  refine gw_cV (pc := 1) (As := []) (rest := []) F (c_Player_nextByte (gw_FJ F) S) cw_Player_nextByte cv_Player_nextByte tw_227 rfl (by decide) (by decide) (by decide) cE_Player rfl rfl rfl rfl (Nat.le_of_ble_eq_true rfl) d_Player_jumpIf_1 (gw_bI (P := fun r U => True) trivial (fun r1 S1 p1 => ?_))
  refine gw_istore_n (pc := 4) (lv' := [(2, .int r1), (0, .ref (ad 1)), (1, .ref (ad (j + 14)))]) F d_Player_jumpIf_4 rfl (by decide) rfl ?_
  refine gw_aload_n (pc := 5) F 1 d_Player_jumpIf_5 rfl rfl ?_
  refine cg_Player_variables (pc := 6) F tw_137 d_Player_jumpIf_6 ?_
  refine gw_aload_n (pc := 9) F 1 d_Player_jumpIf_9 rfl rfl ?_
  refine gw_cV (pc := 10) (As := []) (rest := [.ref (ad 4)]) F (c_Player_nextVariable (gw_FJ F) S1) cw_Player_nextVariable cv_Player_nextVariable tw_236 rfl (by decide) (by decide) (by decide) cE_Player rfl rfl rfl rfl (Nat.le_of_ble_eq_true rfl) d_Player_jumpIf_10 (gw_bI (P := fun r U => vp_in r 32) (cb_nextVariable S1) (fun r10 S10 p10 => ?_))
  refine cl_Vars (pc := 13) F p10 d_Player_jumpIf_13 ?_
  refine gw_nI (fun v14 e14 => ?_)
  refine gw_istore_n (pc := 14) (lv' := [(3, .int v14), (2, .int r1), (0, .ref (ad 1)), (1, .ref (ad (j + 14)))]) F d_Player_jumpIf_14 rfl (by decide) rfl ?_
  refine gw_aload_n (pc := 15) F 2 d_Player_jumpIf_15 rfl rfl ?_
  refine gw_iload_n (pc := 16) F 1 d_Player_jumpIf_16 rfl rfl ?_
  refine gw_cV (pc := 17) (As := [.int r1]) (rest := []) F (c_Player_nextCompared (gw_FJ F) S10 r1) cw_Player_nextCompared cv_Player_nextCompared tw_292 rfl (by decide) (by decide) (by decide) cE_Player rfl rfl rfl rfl (Nat.le_of_ble_eq_true rfl) d_Player_jumpIf_17 (gw_bI (P := fun r U => True) trivial (fun r17 S17 p17 => ?_))
  refine gw_istore (pc := 20) (lv' := [(4, .int r17), (3, .int v14), (2, .int r1), (0, .ref (ad 1)), (1, .ref (ad (j + 14)))]) F d_Player_jumpIf_20 (by decide) rfl ?_
  refine gw_iload_n (pc := 22) F 2 d_Player_jumpIf_22 rfl rfl ?_
  refine gw_bipush (pc := 23) (v := (7 : Int32)) F d_Player_jumpIf_23 (by decide) ?_
  refine gw_iand (pc := 25) F d_Player_jumpIf_25 ?_
  refine gw_nI (fun v26 e26 => ?_)
  refine gw_istore (pc := 26) (lv' := [(5, .int v26), (4, .int r17), (3, .int v14), (2, .int r1), (0, .ref (ad 1)), (1, .ref (ad (j + 14)))]) F d_Player_jumpIf_26 (by decide) rfl ?_
  refine gw_iload (pc := 28) F 0 d_Player_jumpIf_28 rfl ?_
  refine gw_iconst (pc := 30) (v := (5 : Int32)) F d_Player_jumpIf_30 (by decide) ?_
  refine gw_icmp_leS (pc := 31) (tgt := 41) F d_Player_jumpIf_31 (by decide) (fun h31 => ?_) (fun h31 => ?_)
  · refine gw_aload_n (pc := 41) F 4 d_Player_jumpIf_41 rfl rfl ?_
    refine gw_cV (pc := 42) (As := []) (rest := []) F (c_Player_nextAddress (gw_FJ F) S17) cw_Player_nextAddress cv_Player_nextAddress tw_256 rfl (by decide) (by decide) (by decide) cE_Player rfl rfl rfl rfl (Nat.le_of_ble_eq_true rfl) d_Player_jumpIf_42 (gw_bI (P := fun r U => True) trivial (fun r42 S42 p42 => ?_))
    refine gw_istore (pc := 45) (lv' := [(6, .int r42), (5, .int v26), (4, .int r17), (3, .int v14), (2, .int r1), (0, .ref (ad 1)), (1, .ref (ad (j + 14)))]) F d_Player_jumpIf_45 (by decide) rfl ?_
    refine gw_iload (pc := 47) F 1 d_Player_jumpIf_47 rfl ?_
    refine gw_iload_n (pc := 49) F 3 d_Player_jumpIf_49 rfl rfl ?_
    refine gw_iload (pc := 50) F 2 d_Player_jumpIf_50 rfl ?_
    refine gw_cS (pc := 52) (As := [.int v26, .int v14, .int r17]) (rest := []) F (c_Player_compares (gw_FJ F) S42 v26 v14 r17) cw_Player_compares cv_Player_compares tw_296 rfl (by decide) (by decide) rfl rfl (Nat.le_of_ble_eq_true rfl) d_Player_jumpIf_52 (gw_bI (P := fun r U => True) trivial (fun r52 S52 p52 => ?_))
    refine gw_if_eqS (pc := 55) (tgt := 64) F d_Player_jumpIf_55 (by decide) (fun h55 => ?_) (fun h55 => ?_)
    · exact gw_vret (pc := 64) F d_Player_jumpIf_64
    · refine gw_aload_n (pc := 58) F 5 d_Player_jumpIf_58 rfl rfl ?_
      refine gw_iload (pc := 59) F 0 d_Player_jumpIf_59 rfl ?_
      refine cp_Player_at (pc := 61) F tw_143 d_Player_jumpIf_61 ?_
      refine gw_nS (fun S61 E61 => ?_)
      exact gw_vret (pc := 64) F d_Player_jumpIf_64
  · refine gw_aload_n (pc := 34) F 4 d_Player_jumpIf_34 rfl rfl ?_
    refine gw_aload_n (pc := 35) F 5 d_Player_jumpIf_35 rfl rfl ?_
    refine gw_iconst (pc := 36) (v := (3 : Int32)) F d_Player_jumpIf_36 (by decide) ?_
    refine gw_cV (pc := 37) (As := [.ref (ad (j + 14)), .int (3 : Int32)]) (rest := []) F (c_Player_fail (gw_FJ F) hj S17 (3 : Int32)) cw_Player_fail cv_Player_fail tw_268 rfl (by decide) (by decide) (by decide) cE_Player rfl rfl rfl rfl (Nat.le_of_ble_eq_true rfl) d_Player_jumpIf_37 (gw_bV (P := fun _ U => True) trivial (fun _ S37 p37 => ?_))
    exact gw_vret (pc := 40) F d_Player_jumpIf_40
set_option maxHeartbeats 4000000 in
set_option maxRecDepth 100000 in
theorem po_ok_Player_jumpIf  {j : Nat} (hj : j < 16) (S : gw_S)  (hf_ok : cOK S) : cOK (f_Player_jumpIf j S).2 := by
  unfold f_Player_jumpIf
  refine po_b (Φ := fun p : Unit × gw_S => cOK p.2) (P := fun r U => cOK U) (po_ok_Player_nextByte S hf_ok) (fun r1 S1 p1 => ?_)
  refine po_b (Φ := fun p : Unit × gw_S => cOK p.2) (P := fun r U => cOK U ∧ vp_in r 32) ⟨(po_ok_Player_nextVariable S1 p1), (cb_nextVariable S1)⟩ (fun r10 S10 p10 => ?_)
  refine po_n (Φ := fun p : Unit × gw_S => cOK p.2) (fun v14 e14 => ?_)
  refine po_b (Φ := fun p : Unit × gw_S => cOK p.2) (P := fun r U => cOK U) (po_ok_Player_nextCompared S10 r1 p10.1) (fun r17 S17 p17 => ?_)
  refine po_n (Φ := fun p : Unit × gw_S => cOK p.2) (fun v26 e26 => ?_)
  refine po_if (Φ := fun p : Unit × gw_S => cOK p.2) (fun h31 => ?_) (fun h31 => ?_)
  · refine po_b (Φ := fun p : Unit × gw_S => cOK p.2) (P := fun r U => cOK U) (po_ok_Player_nextAddress S17 p17) (fun r42 S42 p42 => ?_)
    refine po_b (Φ := fun p : Unit × gw_S => cOK p.2) (P := fun r U => cOK U) (po_ok_Player_compares S42 v26 v14 r17 p42) (fun r52 S52 p52 => ?_)
    refine po_if (Φ := fun p : Unit × gw_S => cOK p.2) (fun h55 => ?_) (fun h55 => ?_)
    · exact p52
    · refine po_n (Φ := fun p : Unit × gw_S => cOK p.2) (fun S61 E61 => ?_)
      exact (cOK_o E61 p52 (by omega))
  · refine po_b (Φ := fun p : Unit × gw_S => cOK p.2) (P := fun _ U => cOK U) (po_ok_Player_fail hj S17 (3 : Int32) p17) (fun _ S37 p37 => ?_)
    exact p37
def f_Player_startOther   (S : gw_S)  : Unit × gw_S := (gw_b (f_Player_nextByte S) fun r1 S1 => gw_n (r1 &&& (15 : Int32)) fun v7 => gw_b (f_Player_nextAddress S1) fun r15 S15 => gw_n (gw_u S15 ((v7 : Int32).toNatClampNeg + 14) 5 r15) fun S18 => ((), S18))
set_option maxHeartbeats 4000000 in
set_option maxRecDepth 100000 in
theorem c_Player_startOther (hJ : gw_J 46 ad)   (S : gw_S)  : gw_M l y_Player_startOther prog_6_method_11_code 2 none gTs (gw_rm 3) D gCl (gTys cI cB cC cZ) 46 ad (cE ad cI cB cC) gw_rV [.ref (ad 1)] S (f_Player_startOther S) := by
  refine gw_start gTs_ok (plainFor_of_name (by decide)) hJ (Nat.le_of_ble_eq_true rfl) (fun X A F => ?_)
  refine gw_lve (lv' := [(0, .ref (ad 1))]) rfl ?_
  unfold f_Player_startOther
  refine gw_aload_n (pc := 0) F 0 d_Player_startOther_0 rfl rfl ?_
  refine gw_cV (pc := 1) (As := []) (rest := []) F (c_Player_nextByte (gw_FJ F) S) cw_Player_nextByte cv_Player_nextByte tw_227 rfl (by decide) (by decide) (by decide) cE_Player rfl rfl rfl rfl (Nat.le_of_ble_eq_true rfl) d_Player_startOther_1 (gw_bI (P := fun r U => True) trivial (fun r1 S1 p1 => ?_))
  refine gw_bipush (pc := 4) (v := (15 : Int32)) F d_Player_startOther_4 (by decide) ?_
  refine gw_iand (pc := 6) F d_Player_startOther_6 ?_
  refine gw_nI (fun v7 e7 => ?_)
  refine gw_istore_n (pc := 7) (lv' := [(1, .int v7), (0, .ref (ad 1))]) F d_Player_startOther_7 rfl (by decide) rfl ?_
  refine gw_aload_n (pc := 8) F 1 d_Player_startOther_8 rfl rfl ?_
  refine cg_Player_channels (pc := 9) F tw_139 d_Player_startOther_9 ?_
  refine gw_iload_n (pc := 12) F 0 d_Player_startOther_12 rfl rfl ?_
  refine cl_Chans (pc := 13) F (gw_inE e7 (gw_and15 _)) d_Player_startOther_13 ?_
  refine gw_aload_n (pc := 14) F 1 d_Player_startOther_14 rfl rfl ?_
  refine gw_cV (pc := 15) (As := []) (rest := [.ref (ad ((v7 : Int32).toNatClampNeg + 14))]) F (c_Player_nextAddress (gw_FJ F) S1) cw_Player_nextAddress cv_Player_nextAddress tw_256 rfl (by decide) (by decide) (by decide) cE_Player rfl rfl rfl rfl (Nat.le_of_ble_eq_true rfl) d_Player_startOther_15 (gw_bI (P := fun r U => True) trivial (fun r15 S15 p15 => ?_))
  refine cpN_Channel_askedAddress (pc := 18) F (gw_inlt (gw_inE e7 (gw_and15 _))) tw_117 d_Player_startOther_18 ?_
  refine gw_nS (fun S18 E18 => ?_)
  exact gw_vret (pc := 21) F d_Player_startOther_21
set_option maxHeartbeats 4000000 in
set_option maxRecDepth 100000 in
theorem po_ok_Player_startOther   (S : gw_S)  (hf_ok : cOK S) : cOK (f_Player_startOther S).2 := by
  unfold f_Player_startOther
  refine po_b (Φ := fun p : Unit × gw_S => cOK p.2) (P := fun r U => cOK U) (po_ok_Player_nextByte S hf_ok) (fun r1 S1 p1 => ?_)
  refine po_n (Φ := fun p : Unit × gw_S => cOK p.2) (fun v7 e7 => ?_)
  refine po_b (Φ := fun p : Unit × gw_S => cOK p.2) (P := fun r U => cOK U) (po_ok_Player_nextAddress S1 p1) (fun r15 S15 p15 => ?_)
  refine po_n (Φ := fun p : Unit × gw_S => cOK p.2) (fun S18 E18 => ?_)
  exact (cOK_o E18 p15 (by omega))
def f_Player_compute   (S : gw_S) (a1 : Int32) : Unit × gw_S := (gw_b (f_Player_nextVariable S) fun r1 S1 => (if a1 = 0 then (gw_b (f_Player_nextNumber S1) fun r55 S55 => gw_b (f_Player_store S55 r1 r55) fun _ S58 => ((), S58)) else (if a1 = 1 then (gw_b (f_Player_nextVariable S1) fun r71 S71 => gw_b (f_Player_store S71 r1 (S71 4 (r71 : Int32).toNatClampNeg)) fun _ S75 => ((), S75)) else (if a1 = 2 then (gw_b (f_Player_nextVariable S1) fun r94 S94 => gw_b (f_Player_store S94 r1 ((S1 4 (r1 : Int32).toNatClampNeg) + (S94 4 (r94 : Int32).toNatClampNeg))) fun _ S99 => ((), S99)) else (if a1 = 3 then (gw_b (f_Player_nextNumber S1) fun r114 S114 => gw_b (f_Player_store S114 r1 ((S1 4 (r1 : Int32).toNatClampNeg) + r114)) fun _ S118 => ((), S118)) else (if a1 = 4 then (gw_b (f_Player_nextVariable S1) fun r137 S137 => gw_b (f_Player_store S137 r1 ((S1 4 (r1 : Int32).toNatClampNeg) - (S137 4 (r137 : Int32).toNatClampNeg))) fun _ S142 => ((), S142)) else (if a1 = 5 then (gw_b (f_Player_nextNumber S1) fun r157 S157 => gw_b (f_Player_store S157 r1 ((S1 4 (r1 : Int32).toNatClampNeg) &&& r157)) fun _ S161 => ((), S161)) else (if a1 = 6 then (gw_b (f_Player_nextNumber S1) fun r176 S176 => gw_b (f_Player_store S176 r1 ((S1 4 (r1 : Int32).toNatClampNeg) ||| r176)) fun _ S180 => ((), S180)) else (if a1 = 7 then (gw_b (f_Player_nextByte S1) fun r195 S195 => gw_b (f_Player_store S195 r1 ((S1 4 (r1 : Int32).toNatClampNeg) <<< ((r195 &&& (15 : Int32)) &&& 31))) fun _ S202 => ((), S202)) else (gw_b (f_Player_nextByte S1) fun r217 S217 => gw_b (f_Player_store S217 r1 ((S1 4 (r1 : Int32).toNatClampNeg) >>> ((r217 &&& (15 : Int32)) &&& 31))) fun _ S224 => ((), S224)))))))))))
set_option maxHeartbeats 4000000 in
set_option maxRecDepth 100000 in
theorem c_Player_compute (hJ : gw_J 46 ad)   (S : gw_S) (a1 : Int32) : gw_M l y_Player_compute prog_6_method_4_code 3 none gTs (gw_rm 3) D gCl (gTys cI cB cC cZ) 46 ad (cE ad cI cB cC) gw_rV [.ref (ad 1), .int a1] S (f_Player_compute S a1) := by
  refine gw_start gTs_ok (plainFor_of_name (by decide)) hJ (Nat.le_of_ble_eq_true rfl) (fun X A F => ?_)
  refine gw_lve (lv' := [(0, .ref (ad 1)), (1, .int a1)]) rfl ?_
  unfold f_Player_compute
  refine gw_aload_n (pc := 0) F 0 d_Player_compute_0 rfl rfl ?_
  refine gw_cV (pc := 1) (As := []) (rest := []) F (c_Player_nextVariable (gw_FJ F) S) cw_Player_nextVariable cv_Player_nextVariable tw_236 rfl (by decide) (by decide) (by decide) cE_Player rfl rfl rfl rfl (Nat.le_of_ble_eq_true rfl) d_Player_compute_1 (gw_bI (P := fun r U => vp_in r 32) (cb_nextVariable S) (fun r1 S1 p1 => ?_))
  refine gw_istore_n (pc := 4) (lv' := [(2, .int r1), (0, .ref (ad 1)), (1, .int a1)]) F d_Player_compute_4 rfl (by decide) rfl ?_
  refine gw_iload_n (pc := 5) F 2 d_Player_compute_5 rfl rfl ?_
  refine gw_spl (fun h6_0 => ?_) (fun h6_0 => ?_)
  · refine gw_tableIn (pc := 6) (tgt := 52) F d_Player_compute_6 h6_0 (by decide) (by decide) rfl (by decide) ?_
    refine gw_aload_n (pc := 52) F 1 d_Player_compute_52 rfl rfl ?_
    refine gw_iload_n (pc := 53) F 0 d_Player_compute_53 rfl rfl ?_
    refine gw_aload_n (pc := 54) F 1 d_Player_compute_54 rfl rfl ?_
    refine gw_cV (pc := 55) (As := []) (rest := [.int r1, .ref (ad 1)]) F (c_Player_nextNumber (gw_FJ F) S1) cw_Player_nextNumber cv_Player_nextNumber tw_240 rfl (by decide) (by decide) (by decide) cE_Player rfl rfl rfl rfl (Nat.le_of_ble_eq_true rfl) d_Player_compute_55 (gw_bI (P := fun r U => True) trivial (fun r55 S55 p55 => ?_))
    refine gw_cV (pc := 58) (As := [.int r1, .int r55]) (rest := []) F (c_Player_store (gw_FJ F) S55 r1 r55 p1) cw_Player_store cv_Player_store tw_252 rfl (by decide) (by decide) (by decide) cE_Player rfl rfl rfl rfl (Nat.le_of_ble_eq_true rfl) d_Player_compute_58 (gw_bV (P := fun _ U => True) trivial (fun _ S58 p58 => ?_))
    refine gw_goto (pc := 61) (tgt := 227) F d_Player_compute_61 (by decide) ?_
    exact gw_vret (pc := 227) F d_Player_compute_227
  refine gw_spl (fun h6_1 => ?_) (fun h6_1 => ?_)
  · refine gw_tableIn (pc := 6) (tgt := 64) F d_Player_compute_6 h6_1 (by decide) (by decide) rfl (by decide) ?_
    refine gw_aload_n (pc := 64) F 1 d_Player_compute_64 rfl rfl ?_
    refine gw_iload_n (pc := 65) F 0 d_Player_compute_65 rfl rfl ?_
    refine gw_aload_n (pc := 66) F 1 d_Player_compute_66 rfl rfl ?_
    refine cg_Player_variables (pc := 67) F tw_137 d_Player_compute_67 ?_
    refine gw_aload_n (pc := 70) F 1 d_Player_compute_70 rfl rfl ?_
    refine gw_cV (pc := 71) (As := []) (rest := [.ref (ad 4), .int r1, .ref (ad 1)]) F (c_Player_nextVariable (gw_FJ F) S1) cw_Player_nextVariable cv_Player_nextVariable tw_236 rfl (by decide) (by decide) (by decide) cE_Player rfl rfl rfl rfl (Nat.le_of_ble_eq_true rfl) d_Player_compute_71 (gw_bI (P := fun r U => vp_in r 32) (cb_nextVariable S1) (fun r71 S71 p71 => ?_))
    refine cl_Vars (pc := 74) F p71 d_Player_compute_74 ?_
    refine gw_cV (pc := 75) (As := [.int r1, .int (S71 4 (r71 : Int32).toNatClampNeg)]) (rest := []) F (c_Player_store (gw_FJ F) S71 r1 (S71 4 (r71 : Int32).toNatClampNeg) p1) cw_Player_store cv_Player_store tw_252 rfl (by decide) (by decide) (by decide) cE_Player rfl rfl rfl rfl (Nat.le_of_ble_eq_true rfl) d_Player_compute_75 (gw_bV (P := fun _ U => True) trivial (fun _ S75 p75 => ?_))
    refine gw_goto (pc := 78) (tgt := 227) F d_Player_compute_78 (by decide) ?_
    exact gw_vret (pc := 227) F d_Player_compute_227
  refine gw_spl (fun h6_2 => ?_) (fun h6_2 => ?_)
  · refine gw_tableIn (pc := 6) (tgt := 81) F d_Player_compute_6 h6_2 (by decide) (by decide) rfl (by decide) ?_
    refine gw_aload_n (pc := 81) F 1 d_Player_compute_81 rfl rfl ?_
    refine gw_iload_n (pc := 82) F 0 d_Player_compute_82 rfl rfl ?_
    refine gw_aload_n (pc := 83) F 1 d_Player_compute_83 rfl rfl ?_
    refine cg_Player_variables (pc := 84) F tw_137 d_Player_compute_84 ?_
    refine gw_iload_n (pc := 87) F 0 d_Player_compute_87 rfl rfl ?_
    refine cl_Vars (pc := 88) F p1 d_Player_compute_88 ?_
    refine gw_aload_n (pc := 89) F 1 d_Player_compute_89 rfl rfl ?_
    refine cg_Player_variables (pc := 90) F tw_137 d_Player_compute_90 ?_
    refine gw_aload_n (pc := 93) F 1 d_Player_compute_93 rfl rfl ?_
    refine gw_cV (pc := 94) (As := []) (rest := [.ref (ad 4), .int (S1 4 (r1 : Int32).toNatClampNeg), .int r1, .ref (ad 1)]) F (c_Player_nextVariable (gw_FJ F) S1) cw_Player_nextVariable cv_Player_nextVariable tw_236 rfl (by decide) (by decide) (by decide) cE_Player rfl rfl rfl rfl (Nat.le_of_ble_eq_true rfl) d_Player_compute_94 (gw_bI (P := fun r U => vp_in r 32) (cb_nextVariable S1) (fun r94 S94 p94 => ?_))
    refine cl_Vars (pc := 97) F p94 d_Player_compute_97 ?_
    refine gw_iadd (pc := 98) F d_Player_compute_98 ?_
    refine gw_cV (pc := 99) (As := [.int r1, .int ((S1 4 (r1 : Int32).toNatClampNeg) + (S94 4 (r94 : Int32).toNatClampNeg))]) (rest := []) F (c_Player_store (gw_FJ F) S94 r1 ((S1 4 (r1 : Int32).toNatClampNeg) + (S94 4 (r94 : Int32).toNatClampNeg)) p1) cw_Player_store cv_Player_store tw_252 rfl (by decide) (by decide) (by decide) cE_Player rfl rfl rfl rfl (Nat.le_of_ble_eq_true rfl) d_Player_compute_99 (gw_bV (P := fun _ U => True) trivial (fun _ S99 p99 => ?_))
    refine gw_goto (pc := 102) (tgt := 227) F d_Player_compute_102 (by decide) ?_
    exact gw_vret (pc := 227) F d_Player_compute_227
  refine gw_spl (fun h6_3 => ?_) (fun h6_3 => ?_)
  · refine gw_tableIn (pc := 6) (tgt := 105) F d_Player_compute_6 h6_3 (by decide) (by decide) rfl (by decide) ?_
    refine gw_aload_n (pc := 105) F 1 d_Player_compute_105 rfl rfl ?_
    refine gw_iload_n (pc := 106) F 0 d_Player_compute_106 rfl rfl ?_
    refine gw_aload_n (pc := 107) F 1 d_Player_compute_107 rfl rfl ?_
    refine cg_Player_variables (pc := 108) F tw_137 d_Player_compute_108 ?_
    refine gw_iload_n (pc := 111) F 0 d_Player_compute_111 rfl rfl ?_
    refine cl_Vars (pc := 112) F p1 d_Player_compute_112 ?_
    refine gw_aload_n (pc := 113) F 1 d_Player_compute_113 rfl rfl ?_
    refine gw_cV (pc := 114) (As := []) (rest := [.int (S1 4 (r1 : Int32).toNatClampNeg), .int r1, .ref (ad 1)]) F (c_Player_nextNumber (gw_FJ F) S1) cw_Player_nextNumber cv_Player_nextNumber tw_240 rfl (by decide) (by decide) (by decide) cE_Player rfl rfl rfl rfl (Nat.le_of_ble_eq_true rfl) d_Player_compute_114 (gw_bI (P := fun r U => True) trivial (fun r114 S114 p114 => ?_))
    refine gw_iadd (pc := 117) F d_Player_compute_117 ?_
    refine gw_cV (pc := 118) (As := [.int r1, .int ((S1 4 (r1 : Int32).toNatClampNeg) + r114)]) (rest := []) F (c_Player_store (gw_FJ F) S114 r1 ((S1 4 (r1 : Int32).toNatClampNeg) + r114) p1) cw_Player_store cv_Player_store tw_252 rfl (by decide) (by decide) (by decide) cE_Player rfl rfl rfl rfl (Nat.le_of_ble_eq_true rfl) d_Player_compute_118 (gw_bV (P := fun _ U => True) trivial (fun _ S118 p118 => ?_))
    refine gw_goto (pc := 121) (tgt := 227) F d_Player_compute_121 (by decide) ?_
    exact gw_vret (pc := 227) F d_Player_compute_227
  refine gw_spl (fun h6_4 => ?_) (fun h6_4 => ?_)
  · refine gw_tableIn (pc := 6) (tgt := 124) F d_Player_compute_6 h6_4 (by decide) (by decide) rfl (by decide) ?_
    refine gw_aload_n (pc := 124) F 1 d_Player_compute_124 rfl rfl ?_
    refine gw_iload_n (pc := 125) F 0 d_Player_compute_125 rfl rfl ?_
    refine gw_aload_n (pc := 126) F 1 d_Player_compute_126 rfl rfl ?_
    refine cg_Player_variables (pc := 127) F tw_137 d_Player_compute_127 ?_
    refine gw_iload_n (pc := 130) F 0 d_Player_compute_130 rfl rfl ?_
    refine cl_Vars (pc := 131) F p1 d_Player_compute_131 ?_
    refine gw_aload_n (pc := 132) F 1 d_Player_compute_132 rfl rfl ?_
    refine cg_Player_variables (pc := 133) F tw_137 d_Player_compute_133 ?_
    refine gw_aload_n (pc := 136) F 1 d_Player_compute_136 rfl rfl ?_
    refine gw_cV (pc := 137) (As := []) (rest := [.ref (ad 4), .int (S1 4 (r1 : Int32).toNatClampNeg), .int r1, .ref (ad 1)]) F (c_Player_nextVariable (gw_FJ F) S1) cw_Player_nextVariable cv_Player_nextVariable tw_236 rfl (by decide) (by decide) (by decide) cE_Player rfl rfl rfl rfl (Nat.le_of_ble_eq_true rfl) d_Player_compute_137 (gw_bI (P := fun r U => vp_in r 32) (cb_nextVariable S1) (fun r137 S137 p137 => ?_))
    refine cl_Vars (pc := 140) F p137 d_Player_compute_140 ?_
    refine gw_isub (pc := 141) F d_Player_compute_141 ?_
    refine gw_cV (pc := 142) (As := [.int r1, .int ((S1 4 (r1 : Int32).toNatClampNeg) - (S137 4 (r137 : Int32).toNatClampNeg))]) (rest := []) F (c_Player_store (gw_FJ F) S137 r1 ((S1 4 (r1 : Int32).toNatClampNeg) - (S137 4 (r137 : Int32).toNatClampNeg)) p1) cw_Player_store cv_Player_store tw_252 rfl (by decide) (by decide) (by decide) cE_Player rfl rfl rfl rfl (Nat.le_of_ble_eq_true rfl) d_Player_compute_142 (gw_bV (P := fun _ U => True) trivial (fun _ S142 p142 => ?_))
    refine gw_goto (pc := 145) (tgt := 227) F d_Player_compute_145 (by decide) ?_
    exact gw_vret (pc := 227) F d_Player_compute_227
  refine gw_spl (fun h6_5 => ?_) (fun h6_5 => ?_)
  · refine gw_tableIn (pc := 6) (tgt := 148) F d_Player_compute_6 h6_5 (by decide) (by decide) rfl (by decide) ?_
    refine gw_aload_n (pc := 148) F 1 d_Player_compute_148 rfl rfl ?_
    refine gw_iload_n (pc := 149) F 0 d_Player_compute_149 rfl rfl ?_
    refine gw_aload_n (pc := 150) F 1 d_Player_compute_150 rfl rfl ?_
    refine cg_Player_variables (pc := 151) F tw_137 d_Player_compute_151 ?_
    refine gw_iload_n (pc := 154) F 0 d_Player_compute_154 rfl rfl ?_
    refine cl_Vars (pc := 155) F p1 d_Player_compute_155 ?_
    refine gw_aload_n (pc := 156) F 1 d_Player_compute_156 rfl rfl ?_
    refine gw_cV (pc := 157) (As := []) (rest := [.int (S1 4 (r1 : Int32).toNatClampNeg), .int r1, .ref (ad 1)]) F (c_Player_nextNumber (gw_FJ F) S1) cw_Player_nextNumber cv_Player_nextNumber tw_240 rfl (by decide) (by decide) (by decide) cE_Player rfl rfl rfl rfl (Nat.le_of_ble_eq_true rfl) d_Player_compute_157 (gw_bI (P := fun r U => True) trivial (fun r157 S157 p157 => ?_))
    refine gw_iand (pc := 160) F d_Player_compute_160 ?_
    refine gw_cV (pc := 161) (As := [.int r1, .int ((S1 4 (r1 : Int32).toNatClampNeg) &&& r157)]) (rest := []) F (c_Player_store (gw_FJ F) S157 r1 ((S1 4 (r1 : Int32).toNatClampNeg) &&& r157) p1) cw_Player_store cv_Player_store tw_252 rfl (by decide) (by decide) (by decide) cE_Player rfl rfl rfl rfl (Nat.le_of_ble_eq_true rfl) d_Player_compute_161 (gw_bV (P := fun _ U => True) trivial (fun _ S161 p161 => ?_))
    refine gw_goto (pc := 164) (tgt := 227) F d_Player_compute_164 (by decide) ?_
    exact gw_vret (pc := 227) F d_Player_compute_227
  refine gw_spl (fun h6_6 => ?_) (fun h6_6 => ?_)
  · refine gw_tableIn (pc := 6) (tgt := 167) F d_Player_compute_6 h6_6 (by decide) (by decide) rfl (by decide) ?_
    refine gw_aload_n (pc := 167) F 1 d_Player_compute_167 rfl rfl ?_
    refine gw_iload_n (pc := 168) F 0 d_Player_compute_168 rfl rfl ?_
    refine gw_aload_n (pc := 169) F 1 d_Player_compute_169 rfl rfl ?_
    refine cg_Player_variables (pc := 170) F tw_137 d_Player_compute_170 ?_
    refine gw_iload_n (pc := 173) F 0 d_Player_compute_173 rfl rfl ?_
    refine cl_Vars (pc := 174) F p1 d_Player_compute_174 ?_
    refine gw_aload_n (pc := 175) F 1 d_Player_compute_175 rfl rfl ?_
    refine gw_cV (pc := 176) (As := []) (rest := [.int (S1 4 (r1 : Int32).toNatClampNeg), .int r1, .ref (ad 1)]) F (c_Player_nextNumber (gw_FJ F) S1) cw_Player_nextNumber cv_Player_nextNumber tw_240 rfl (by decide) (by decide) (by decide) cE_Player rfl rfl rfl rfl (Nat.le_of_ble_eq_true rfl) d_Player_compute_176 (gw_bI (P := fun r U => True) trivial (fun r176 S176 p176 => ?_))
    refine gw_ior (pc := 179) F d_Player_compute_179 ?_
    refine gw_cV (pc := 180) (As := [.int r1, .int ((S1 4 (r1 : Int32).toNatClampNeg) ||| r176)]) (rest := []) F (c_Player_store (gw_FJ F) S176 r1 ((S1 4 (r1 : Int32).toNatClampNeg) ||| r176) p1) cw_Player_store cv_Player_store tw_252 rfl (by decide) (by decide) (by decide) cE_Player rfl rfl rfl rfl (Nat.le_of_ble_eq_true rfl) d_Player_compute_180 (gw_bV (P := fun _ U => True) trivial (fun _ S180 p180 => ?_))
    refine gw_goto (pc := 183) (tgt := 227) F d_Player_compute_183 (by decide) ?_
    exact gw_vret (pc := 227) F d_Player_compute_227
  refine gw_spl (fun h6_7 => ?_) (fun h6_7 => ?_)
  · refine gw_tableIn (pc := 6) (tgt := 186) F d_Player_compute_6 h6_7 (by decide) (by decide) rfl (by decide) ?_
    refine gw_aload_n (pc := 186) F 1 d_Player_compute_186 rfl rfl ?_
    refine gw_iload_n (pc := 187) F 0 d_Player_compute_187 rfl rfl ?_
    refine gw_aload_n (pc := 188) F 1 d_Player_compute_188 rfl rfl ?_
    refine cg_Player_variables (pc := 189) F tw_137 d_Player_compute_189 ?_
    refine gw_iload_n (pc := 192) F 0 d_Player_compute_192 rfl rfl ?_
    refine cl_Vars (pc := 193) F p1 d_Player_compute_193 ?_
    refine gw_aload_n (pc := 194) F 1 d_Player_compute_194 rfl rfl ?_
    refine gw_cV (pc := 195) (As := []) (rest := [.int (S1 4 (r1 : Int32).toNatClampNeg), .int r1, .ref (ad 1)]) F (c_Player_nextByte (gw_FJ F) S1) cw_Player_nextByte cv_Player_nextByte tw_227 rfl (by decide) (by decide) (by decide) cE_Player rfl rfl rfl rfl (Nat.le_of_ble_eq_true rfl) d_Player_compute_195 (gw_bI (P := fun r U => True) trivial (fun r195 S195 p195 => ?_))
    refine gw_bipush (pc := 198) (v := (15 : Int32)) F d_Player_compute_198 (by decide) ?_
    refine gw_iand (pc := 200) F d_Player_compute_200 ?_
    refine gw_ishl (pc := 201) F d_Player_compute_201 ?_
    refine gw_cV (pc := 202) (As := [.int r1, .int ((S1 4 (r1 : Int32).toNatClampNeg) <<< ((r195 &&& (15 : Int32)) &&& 31))]) (rest := []) F (c_Player_store (gw_FJ F) S195 r1 ((S1 4 (r1 : Int32).toNatClampNeg) <<< ((r195 &&& (15 : Int32)) &&& 31)) p1) cw_Player_store cv_Player_store tw_252 rfl (by decide) (by decide) (by decide) cE_Player rfl rfl rfl rfl (Nat.le_of_ble_eq_true rfl) d_Player_compute_202 (gw_bV (P := fun _ U => True) trivial (fun _ S202 p202 => ?_))
    refine gw_goto (pc := 205) (tgt := 227) F d_Player_compute_205 (by decide) ?_
    exact gw_vret (pc := 227) F d_Player_compute_227
  refine gw_tableOut (pc := 6) (tgt := 208) F d_Player_compute_6 (by have ne_0 : ¬ (a1 : Int32).toInt = 0 := gw_ne h6_0; have ne_1 : ¬ (a1 : Int32).toInt = 1 := gw_ne h6_1; have ne_2 : ¬ (a1 : Int32).toInt = 2 := gw_ne h6_2; have ne_3 : ¬ (a1 : Int32).toInt = 3 := gw_ne h6_3; have ne_4 : ¬ (a1 : Int32).toInt = 4 := gw_ne h6_4; have ne_5 : ¬ (a1 : Int32).toInt = 5 := gw_ne h6_5; have ne_6 : ¬ (a1 : Int32).toInt = 6 := gw_ne h6_6; have ne_7 : ¬ (a1 : Int32).toInt = 7 := gw_ne h6_7; omega) (by decide) ?_
  refine gw_aload_n (pc := 208) F 1 d_Player_compute_208 rfl rfl ?_
  refine gw_iload_n (pc := 209) F 0 d_Player_compute_209 rfl rfl ?_
  refine gw_aload_n (pc := 210) F 1 d_Player_compute_210 rfl rfl ?_
  refine cg_Player_variables (pc := 211) F tw_137 d_Player_compute_211 ?_
  refine gw_iload_n (pc := 214) F 0 d_Player_compute_214 rfl rfl ?_
  refine cl_Vars (pc := 215) F p1 d_Player_compute_215 ?_
  refine gw_aload_n (pc := 216) F 1 d_Player_compute_216 rfl rfl ?_
  refine gw_cV (pc := 217) (As := []) (rest := [.int (S1 4 (r1 : Int32).toNatClampNeg), .int r1, .ref (ad 1)]) F (c_Player_nextByte (gw_FJ F) S1) cw_Player_nextByte cv_Player_nextByte tw_227 rfl (by decide) (by decide) (by decide) cE_Player rfl rfl rfl rfl (Nat.le_of_ble_eq_true rfl) d_Player_compute_217 (gw_bI (P := fun r U => True) trivial (fun r217 S217 p217 => ?_))
  refine gw_bipush (pc := 220) (v := (15 : Int32)) F d_Player_compute_220 (by decide) ?_
  refine gw_iand (pc := 222) F d_Player_compute_222 ?_
  refine gw_ishr (pc := 223) F d_Player_compute_223 ?_
  refine gw_cV (pc := 224) (As := [.int r1, .int ((S1 4 (r1 : Int32).toNatClampNeg) >>> ((r217 &&& (15 : Int32)) &&& 31))]) (rest := []) F (c_Player_store (gw_FJ F) S217 r1 ((S1 4 (r1 : Int32).toNatClampNeg) >>> ((r217 &&& (15 : Int32)) &&& 31)) p1) cw_Player_store cv_Player_store tw_252 rfl (by decide) (by decide) (by decide) cE_Player rfl rfl rfl rfl (Nat.le_of_ble_eq_true rfl) d_Player_compute_224 (gw_bV (P := fun _ U => True) trivial (fun _ S224 p224 => ?_))
  exact gw_vret (pc := 227) F d_Player_compute_227
set_option maxHeartbeats 4000000 in
set_option maxRecDepth 100000 in
theorem po_ok_Player_compute   (S : gw_S) (a1 : Int32) (hf_ok : cOK S) : cOK (f_Player_compute S a1).2 := by
  unfold f_Player_compute
  refine po_b (Φ := fun p : Unit × gw_S => cOK p.2) (P := fun r U => cOK U ∧ vp_in r 32) ⟨(po_ok_Player_nextVariable S hf_ok), (cb_nextVariable S)⟩ (fun r1 S1 p1 => ?_)
  refine po_if (Φ := fun p : Unit × gw_S => cOK p.2) (fun h6_0 => ?_) (fun h6_0 => ?_)
  · refine po_b (Φ := fun p : Unit × gw_S => cOK p.2) (P := fun r U => cOK U) (po_ok_Player_nextNumber S1 p1.1) (fun r55 S55 p55 => ?_)
    refine po_b (Φ := fun p : Unit × gw_S => cOK p.2) (P := fun _ U => cOK U) (po_ok_Player_store S55 r1 r55 p55 p1.2) (fun _ S58 p58 => ?_)
    exact p58
  refine po_if (Φ := fun p : Unit × gw_S => cOK p.2) (fun h6_1 => ?_) (fun h6_1 => ?_)
  · refine po_b (Φ := fun p : Unit × gw_S => cOK p.2) (P := fun r U => cOK U ∧ vp_in r 32) ⟨(po_ok_Player_nextVariable S1 p1.1), (cb_nextVariable S1)⟩ (fun r71 S71 p71 => ?_)
    refine po_b (Φ := fun p : Unit × gw_S => cOK p.2) (P := fun _ U => cOK U) (po_ok_Player_store S71 r1 (S71 4 (r71 : Int32).toNatClampNeg) p71.1 p1.2) (fun _ S75 p75 => ?_)
    exact p75
  refine po_if (Φ := fun p : Unit × gw_S => cOK p.2) (fun h6_2 => ?_) (fun h6_2 => ?_)
  · refine po_b (Φ := fun p : Unit × gw_S => cOK p.2) (P := fun r U => cOK U ∧ vp_in r 32) ⟨(po_ok_Player_nextVariable S1 p1.1), (cb_nextVariable S1)⟩ (fun r94 S94 p94 => ?_)
    refine po_b (Φ := fun p : Unit × gw_S => cOK p.2) (P := fun _ U => cOK U) (po_ok_Player_store S94 r1 ((S1 4 (r1 : Int32).toNatClampNeg) + (S94 4 (r94 : Int32).toNatClampNeg)) p94.1 p1.2) (fun _ S99 p99 => ?_)
    exact p99
  refine po_if (Φ := fun p : Unit × gw_S => cOK p.2) (fun h6_3 => ?_) (fun h6_3 => ?_)
  · refine po_b (Φ := fun p : Unit × gw_S => cOK p.2) (P := fun r U => cOK U) (po_ok_Player_nextNumber S1 p1.1) (fun r114 S114 p114 => ?_)
    refine po_b (Φ := fun p : Unit × gw_S => cOK p.2) (P := fun _ U => cOK U) (po_ok_Player_store S114 r1 ((S1 4 (r1 : Int32).toNatClampNeg) + r114) p114 p1.2) (fun _ S118 p118 => ?_)
    exact p118
  refine po_if (Φ := fun p : Unit × gw_S => cOK p.2) (fun h6_4 => ?_) (fun h6_4 => ?_)
  · refine po_b (Φ := fun p : Unit × gw_S => cOK p.2) (P := fun r U => cOK U ∧ vp_in r 32) ⟨(po_ok_Player_nextVariable S1 p1.1), (cb_nextVariable S1)⟩ (fun r137 S137 p137 => ?_)
    refine po_b (Φ := fun p : Unit × gw_S => cOK p.2) (P := fun _ U => cOK U) (po_ok_Player_store S137 r1 ((S1 4 (r1 : Int32).toNatClampNeg) - (S137 4 (r137 : Int32).toNatClampNeg)) p137.1 p1.2) (fun _ S142 p142 => ?_)
    exact p142
  refine po_if (Φ := fun p : Unit × gw_S => cOK p.2) (fun h6_5 => ?_) (fun h6_5 => ?_)
  · refine po_b (Φ := fun p : Unit × gw_S => cOK p.2) (P := fun r U => cOK U) (po_ok_Player_nextNumber S1 p1.1) (fun r157 S157 p157 => ?_)
    refine po_b (Φ := fun p : Unit × gw_S => cOK p.2) (P := fun _ U => cOK U) (po_ok_Player_store S157 r1 ((S1 4 (r1 : Int32).toNatClampNeg) &&& r157) p157 p1.2) (fun _ S161 p161 => ?_)
    exact p161
  refine po_if (Φ := fun p : Unit × gw_S => cOK p.2) (fun h6_6 => ?_) (fun h6_6 => ?_)
  · refine po_b (Φ := fun p : Unit × gw_S => cOK p.2) (P := fun r U => cOK U) (po_ok_Player_nextNumber S1 p1.1) (fun r176 S176 p176 => ?_)
    refine po_b (Φ := fun p : Unit × gw_S => cOK p.2) (P := fun _ U => cOK U) (po_ok_Player_store S176 r1 ((S1 4 (r1 : Int32).toNatClampNeg) ||| r176) p176 p1.2) (fun _ S180 p180 => ?_)
    exact p180
  refine po_if (Φ := fun p : Unit × gw_S => cOK p.2) (fun h6_7 => ?_) (fun h6_7 => ?_)
  · refine po_b (Φ := fun p : Unit × gw_S => cOK p.2) (P := fun r U => cOK U) (po_ok_Player_nextByte S1 p1.1) (fun r195 S195 p195 => ?_)
    refine po_b (Φ := fun p : Unit × gw_S => cOK p.2) (P := fun _ U => cOK U) (po_ok_Player_store S195 r1 ((S1 4 (r1 : Int32).toNatClampNeg) <<< ((r195 &&& (15 : Int32)) &&& 31)) p195 p1.2) (fun _ S202 p202 => ?_)
    exact p202
  refine po_b (Φ := fun p : Unit × gw_S => cOK p.2) (P := fun r U => cOK U) (po_ok_Player_nextByte S1 p1.1) (fun r217 S217 p217 => ?_)
  refine po_b (Φ := fun p : Unit × gw_S => cOK p.2) (P := fun _ U => cOK U) (po_ok_Player_store S217 r1 ((S1 4 (r1 : Int32).toNatClampNeg) >>> ((r217 &&& (15 : Int32)) &&& 31)) p217 p1.2) (fun _ S224 p224 => ?_)
  exact p224
def fl_Player_askOfEach_38   (y3 : Int32) (y4 : Int32) (n : Nat) : gw_S → Int32 → Unit × gw_S := gw_L1 (fun self S x5 => (if y3 < x5 then (((), S)) else (if y4 = (2 : Int32) then (gw_n (gw_u S ((x5 : Int32).toNatClampNeg + 14) 5 (-1 : Int32)) fun S58 => (self S58 (x5 + (1 : Int32)))) else (gw_n (gw_u S ((x5 : Int32).toNatClampNeg + 14) 6 y4) fun S73 => (self S73 (x5 + (1 : Int32))))))) (fun S _ => ((), S)) n
set_option maxHeartbeats 4000000 in
set_option maxRecDepth 100000 in
theorem l_Player_askOfEach_38 {X : gx_M} {A : Nat → Prop}  (F : gw_F X l prog_6_method_12_code 6 none "StageMachine$Player" gTs (gw_rm 2) D gCl (gTys cI cB cC cZ) 46 ad A) (y3 : Int32) (y4 : Int32) (hl3 : vp_in y3 16) : ∀ (n : Nat) (S : gw_S) (x5 : Int32), 0 < n → (y3 : Int32).toInt + 1 - x5.toInt < (n : Int) → 0 ≤ x5.toInt → gw_V X (gw_P D gCl 46 ad (cE ad cI cB cC)) A 6 gw_rV S 38 [(0, .ref (ad 1)), (3, .int y3), (4, .int y4), (5, .int x5)] [] (fl_Player_askOfEach_38 y3 y4 n S x5) := by
  intro n
  induction n with
  | zero => intro S x5 hn hf h0; exact absurd hn (Nat.lt_irrefl 0)
  | succ n ih =>
    intro S x5 hn hf h0
    refine gw_iload (pc := 38) F 3 d_Player_askOfEach_38 rfl ?_
    refine gw_iload_n (pc := 40) F 1 d_Player_askOfEach_40 rfl rfl ?_
    refine gw_icmp_gtS (pc := 41) (tgt := 82) F d_Player_askOfEach_41 (by decide) (fun h41 => ?_) (fun h41 => ?_)
    · exact gw_vret (pc := 82) F d_Player_askOfEach_82
    · refine gw_iload (pc := 44) F 2 d_Player_askOfEach_44 rfl ?_
      refine gw_iconst (pc := 46) (v := (2 : Int32)) F d_Player_askOfEach_46 (by decide) ?_
      refine gw_icmp_neS (pc := 47) (tgt := 64) F d_Player_askOfEach_47 (by decide) (fun h47 => ?_) (fun h47 => ?_)
      · refine gw_aload_n (pc := 64) F 0 d_Player_askOfEach_64 rfl rfl ?_
        refine cg_Player_channels (pc := 65) F tw_139 d_Player_askOfEach_65 ?_
        refine gw_iload (pc := 68) F 3 d_Player_askOfEach_68 rfl ?_
        refine cl_Chans (pc := 70) F (gw_inG hl3 h41 h0) d_Player_askOfEach_70 ?_
        refine gw_iload (pc := 71) F 2 d_Player_askOfEach_71 rfl ?_
        refine cpN_Channel_askedPause (pc := 73) F (gw_inlt (gw_inG hl3 h41 h0)) tw_119 d_Player_askOfEach_73 ?_
        refine gw_nS (fun S73 E73 => ?_)
        refine gw_iinc (pc := 76) (v := (x5 + (1 : Int32))) (lv' := [(5, .int (x5 + (1 : Int32))), (0, .ref (ad 1)), (3, .int y3), (4, .int y4)]) F 3 d_Player_askOfEach_76 rfl (congrArg (HAdd.hAdd x5) (by decide)) (by decide) rfl ?_
        refine gw_goto (pc := 79) (tgt := 38) F d_Player_askOfEach_79 (by decide) ?_
        refine gw_lvs (lv' := [(0, .ref (ad 1)), (3, .int y3), (4, .int y4), (5, .int (x5 + (1 : Int32)))]) [1, 2, 3, 0] rfl ?_
        exact ih S73 (x5 + (1 : Int32)) (gw_stpG hl3 h41 hf).1 (gw_stpG hl3 h41 hf).2.1 (gw_up1 (gw_stpG hl3 h41 hf).2.2 h0)
      · refine gw_aload_n (pc := 50) F 0 d_Player_askOfEach_50 rfl rfl ?_
        refine cg_Player_channels (pc := 51) F tw_139 d_Player_askOfEach_51 ?_
        refine gw_iload (pc := 54) F 3 d_Player_askOfEach_54 rfl ?_
        refine cl_Chans (pc := 56) F (gw_inG hl3 h41 h0) d_Player_askOfEach_56 ?_
        refine gw_iconst (pc := 57) (v := (-1 : Int32)) F d_Player_askOfEach_57 (by decide) ?_
        refine cpN_Channel_askedAddress (pc := 58) F (gw_inlt (gw_inG hl3 h41 h0)) tw_117 d_Player_askOfEach_58 ?_
        refine gw_nS (fun S58 E58 => ?_)
        refine gw_goto (pc := 61) (tgt := 76) F d_Player_askOfEach_61 (by decide) ?_
        refine gw_iinc (pc := 76) (v := (x5 + (1 : Int32))) (lv' := [(5, .int (x5 + (1 : Int32))), (0, .ref (ad 1)), (3, .int y3), (4, .int y4)]) F 3 d_Player_askOfEach_76 rfl (congrArg (HAdd.hAdd x5) (by decide)) (by decide) rfl ?_
        refine gw_goto (pc := 79) (tgt := 38) F d_Player_askOfEach_79 (by decide) ?_
        refine gw_lvs (lv' := [(0, .ref (ad 1)), (3, .int y3), (4, .int y4), (5, .int (x5 + (1 : Int32)))]) [1, 2, 3, 0] rfl ?_
        exact ih S58 (x5 + (1 : Int32)) (gw_stpG hl3 h41 hf).1 (gw_stpG hl3 h41 hf).2.1 (gw_up1 (gw_stpG hl3 h41 hf).2.2 h0)
def f_Player_askOfEach  (j : Nat) (S : gw_S)  : Unit × gw_S := (gw_b (f_Player_nextByte S) fun r1 S1 => gw_n (r1 &&& (15 : Int32)) fun v7 => gw_b (f_Player_nextByte S1) fun r9 S9 => gw_n (r9 &&& (15 : Int32)) fun v15 => gw_b (f_Player_nextByte S9) fun r17 S17 => if r17 ≤ (2 : Int32) then (fl_Player_askOfEach_38 v15 r17 (((v15 : Int32).toInt + 1 - (v7 : Int32).toInt).toNat + 1) S17 v7) else (gw_b (f_Player_fail j S17 (4 : Int32)) fun _ S31 => ((), S31)))
set_option maxHeartbeats 4000000 in
set_option maxRecDepth 100000 in
theorem c_Player_askOfEach (hJ : gw_J 46 ad)  {j : Nat} (hj : j < 16) (S : gw_S)  : gw_M l y_Player_askOfEach prog_6_method_12_code 6 none gTs (gw_rm 2) D gCl (gTys cI cB cC cZ) 46 ad (cE ad cI cB cC) gw_rV [.ref (ad 1), .ref (ad (j + 14))] S (f_Player_askOfEach j S) := by
  refine gw_start gTs_ok (plainFor_of_name (by decide)) hJ (Nat.le_of_ble_eq_true rfl) (fun X A F => ?_)
  refine gw_lve (lv' := [(0, .ref (ad 1)), (1, .ref (ad (j + 14)))]) rfl ?_
  unfold f_Player_askOfEach
  refine gw_aload_n (pc := 0) F 0 d_Player_askOfEach_0 rfl rfl ?_
  refine gw_cV (pc := 1) (As := []) (rest := []) F (c_Player_nextByte (gw_FJ F) S) cw_Player_nextByte cv_Player_nextByte tw_227 rfl (by decide) (by decide) (by decide) cE_Player rfl rfl rfl rfl (Nat.le_of_ble_eq_true rfl) d_Player_askOfEach_1 (gw_bI (P := fun r U => True) trivial (fun r1 S1 p1 => ?_))
  refine gw_bipush (pc := 4) (v := (15 : Int32)) F d_Player_askOfEach_4 (by decide) ?_
  refine gw_iand (pc := 6) F d_Player_askOfEach_6 ?_
  refine gw_nI (fun v7 e7 => ?_)
  refine gw_istore_n (pc := 7) (lv' := [(2, .int v7), (0, .ref (ad 1)), (1, .ref (ad (j + 14)))]) F d_Player_askOfEach_7 rfl (by decide) rfl ?_
  refine gw_aload_n (pc := 8) F 1 d_Player_askOfEach_8 rfl rfl ?_
  refine gw_cV (pc := 9) (As := []) (rest := []) F (c_Player_nextByte (gw_FJ F) S1) cw_Player_nextByte cv_Player_nextByte tw_227 rfl (by decide) (by decide) (by decide) cE_Player rfl rfl rfl rfl (Nat.le_of_ble_eq_true rfl) d_Player_askOfEach_9 (gw_bI (P := fun r U => True) trivial (fun r9 S9 p9 => ?_))
  refine gw_bipush (pc := 12) (v := (15 : Int32)) F d_Player_askOfEach_12 (by decide) ?_
  refine gw_iand (pc := 14) F d_Player_askOfEach_14 ?_
  refine gw_nI (fun v15 e15 => ?_)
  refine gw_istore_n (pc := 15) (lv' := [(3, .int v15), (2, .int v7), (0, .ref (ad 1)), (1, .ref (ad (j + 14)))]) F d_Player_askOfEach_15 rfl (by decide) rfl ?_
  refine gw_aload_n (pc := 16) F 2 d_Player_askOfEach_16 rfl rfl ?_
  refine gw_cV (pc := 17) (As := []) (rest := []) F (c_Player_nextByte (gw_FJ F) S9) cw_Player_nextByte cv_Player_nextByte tw_227 rfl (by decide) (by decide) (by decide) cE_Player rfl rfl rfl rfl (Nat.le_of_ble_eq_true rfl) d_Player_askOfEach_17 (gw_bI (P := fun r U => True) trivial (fun r17 S17 p17 => ?_))
  refine gw_istore (pc := 20) (lv' := [(4, .int r17), (3, .int v15), (2, .int v7), (0, .ref (ad 1)), (1, .ref (ad (j + 14)))]) F d_Player_askOfEach_20 (by decide) rfl ?_
  refine gw_iload (pc := 22) F 0 d_Player_askOfEach_22 rfl ?_
  refine gw_iconst (pc := 24) (v := (2 : Int32)) F d_Player_askOfEach_24 (by decide) ?_
  refine gw_icmp_leS (pc := 25) (tgt := 35) F d_Player_askOfEach_25 (by decide) (fun h25 => ?_) (fun h25 => ?_)
  · refine gw_iload_n (pc := 35) F 2 d_Player_askOfEach_35 rfl rfl ?_
    refine gw_istore (pc := 36) (lv' := [(5, .int v7), (4, .int r17), (3, .int v15), (2, .int v7), (0, .ref (ad 1)), (1, .ref (ad (j + 14)))]) F d_Player_askOfEach_36 (by decide) rfl ?_
    refine gw_lvs (lv' := [(0, .ref (ad 1)), (3, .int v15), (4, .int r17), (5, .int v7)]) [4, 2, 1, 0] rfl ?_
    exact l_Player_askOfEach_38  F v15 r17 (gw_inE e15 (gw_and15 _)) (((v15 : Int32).toInt + 1 - (v7 : Int32).toInt).toNat + 1) S17 v7 (Nat.succ_pos _) (gw_ent _) (vp_in_iff.mp (gw_inE e7 (gw_and15 _))).1
  · refine gw_aload_n (pc := 28) F 3 d_Player_askOfEach_28 rfl rfl ?_
    refine gw_aload_n (pc := 29) F 4 d_Player_askOfEach_29 rfl rfl ?_
    refine gw_iconst (pc := 30) (v := (4 : Int32)) F d_Player_askOfEach_30 (by decide) ?_
    refine gw_cV (pc := 31) (As := [.ref (ad (j + 14)), .int (4 : Int32)]) (rest := []) F (c_Player_fail (gw_FJ F) hj S17 (4 : Int32)) cw_Player_fail cv_Player_fail tw_268 rfl (by decide) (by decide) (by decide) cE_Player rfl rfl rfl rfl (Nat.le_of_ble_eq_true rfl) d_Player_askOfEach_31 (gw_bV (P := fun _ U => True) trivial (fun _ S31 p31 => ?_))
    exact gw_vret (pc := 34) F d_Player_askOfEach_34
set_option maxHeartbeats 4000000 in
set_option maxRecDepth 100000 in
theorem pl_ok_Player_askOfEach_38  (y3 : Int32) (y4 : Int32) (hl3 : vp_in y3 16) : ∀ (n : Nat) (S : gw_S) (x5 : Int32), 0 < n → (y3 : Int32).toInt + 1 - x5.toInt < (n : Int) → 0 ≤ x5.toInt → cOK S → cOK (fl_Player_askOfEach_38 y3 y4 n S x5).2 := by
  intro n
  induction n with
  | zero => intro S x5 hn hf h0 hf_ok; exact absurd hn (Nat.lt_irrefl 0)
  | succ n ih =>
    intro S x5 hn hf h0 hf_ok
    refine po_if (Φ := fun p : Unit × gw_S => cOK p.2) (fun h41 => ?_) (fun h41 => ?_)
    · exact hf_ok
    · refine po_if (Φ := fun p : Unit × gw_S => cOK p.2) (fun h47 => ?_) (fun h47 => ?_)
      · refine po_n (Φ := fun p : Unit × gw_S => cOK p.2) (fun S58 E58 => ?_)
        exact ih S58 (x5 + (1 : Int32)) (gw_stpG hl3 h41 hf).1 (gw_stpG hl3 h41 hf).2.1 (gw_up1 (gw_stpG hl3 h41 hf).2.2 h0) (cOK_o E58 hf_ok (by omega))
      · refine po_n (Φ := fun p : Unit × gw_S => cOK p.2) (fun S73 E73 => ?_)
        exact ih S73 (x5 + (1 : Int32)) (gw_stpG hl3 h41 hf).1 (gw_stpG hl3 h41 hf).2.1 (gw_up1 (gw_stpG hl3 h41 hf).2.2 h0) (cOK_o E73 hf_ok (by omega))
set_option maxHeartbeats 4000000 in
set_option maxRecDepth 100000 in
theorem po_ok_Player_askOfEach  {j : Nat} (hj : j < 16) (S : gw_S)  (hf_ok : cOK S) : cOK (f_Player_askOfEach j S).2 := by
  unfold f_Player_askOfEach
  refine po_b (Φ := fun p : Unit × gw_S => cOK p.2) (P := fun r U => cOK U) (po_ok_Player_nextByte S hf_ok) (fun r1 S1 p1 => ?_)
  refine po_n (Φ := fun p : Unit × gw_S => cOK p.2) (fun v7 e7 => ?_)
  refine po_b (Φ := fun p : Unit × gw_S => cOK p.2) (P := fun r U => cOK U) (po_ok_Player_nextByte S1 p1) (fun r9 S9 p9 => ?_)
  refine po_n (Φ := fun p : Unit × gw_S => cOK p.2) (fun v15 e15 => ?_)
  refine po_b (Φ := fun p : Unit × gw_S => cOK p.2) (P := fun r U => cOK U) (po_ok_Player_nextByte S9 p9) (fun r17 S17 p17 => ?_)
  refine po_if (Φ := fun p : Unit × gw_S => cOK p.2) (fun h25 => ?_) (fun h25 => ?_)
  · exact pl_ok_Player_askOfEach_38 v15 r17 (gw_inE e15 (gw_and15 _)) (((v15 : Int32).toInt + 1 - (v7 : Int32).toInt).toNat + 1) S17 v7 (Nat.succ_pos _) (gw_ent _) (vp_in_iff.mp (gw_inE e7 (gw_and15 _))).1 p17
  · refine po_b (Φ := fun p : Unit × gw_S => cOK p.2) (P := fun _ U => cOK U) (po_ok_Player_fail hj S17 (4 : Int32) p17) (fun _ S31 p31 => ?_)
    exact p31
end
end
section
section
variable {l : Launch} {D : va_G} {cI cB cC cZ : ClassId} {ad : Nat → Nat}
def f_SM_isBelow   (S : gw_S) (a1 : Int32) (a2 : Int32) : Int32 × gw_S := (if a1 < 0 then (((0 : Int32), S)) else (if a2 ≤ a1 then (((0 : Int32), S)) else (((1 : Int32), S))))
set_option maxHeartbeats 4000000 in
set_option maxRecDepth 100000 in
theorem c_SM_isBelow (hJ : gw_J 46 ad)   (S : gw_S) (a1 : Int32) (a2 : Int32) : gw_M l y_SM_isBelow prog_1_method_12_code 2 (some .boolean) gTs (gw_rm 0) D gCl (gTys cI cB cC cZ) 46 ad (cE ad cI cB cC) gw_rI [.int a1, .int a2] S (f_SM_isBelow S a1 a2) := by
  refine gw_start gTs_ok (plainFor_of_name (by decide)) hJ (Nat.le_of_ble_eq_true rfl) (fun X A F => ?_)
  refine gw_lve (lv' := [(0, .int a1), (1, .int a2)]) rfl ?_
  unfold f_SM_isBelow
  refine gw_iload_n (pc := 0) F 0 d_SM_isBelow_0 rfl rfl ?_
  refine gw_if_ltS (pc := 1) (tgt := 13) F d_SM_isBelow_1 (by decide) (fun h1 => ?_) (fun h1 => ?_)
  · refine gw_iconst (pc := 13) (v := (0 : Int32)) F d_SM_isBelow_13 (by decide) ?_
    exact gw_zret (pc := 14) F d_SM_isBelow_14 rfl
  · refine gw_iload_n (pc := 4) F 0 d_SM_isBelow_4 rfl rfl ?_
    refine gw_iload_n (pc := 5) F 1 d_SM_isBelow_5 rfl rfl ?_
    refine gw_icmp_geS (pc := 6) (tgt := 13) F d_SM_isBelow_6 (by decide) (fun h6 => ?_) (fun h6 => ?_)
    · refine gw_iconst (pc := 13) (v := (0 : Int32)) F d_SM_isBelow_13 (by decide) ?_
      exact gw_zret (pc := 14) F d_SM_isBelow_14 rfl
    · refine gw_iconst (pc := 9) (v := (1 : Int32)) F d_SM_isBelow_9 (by decide) ?_
      refine gw_goto (pc := 10) (tgt := 14) F d_SM_isBelow_10 (by decide) ?_
      exact gw_zret (pc := 14) F d_SM_isBelow_14 rfl
theorem cb_isBelow {S : gw_S} {a b : Int32} {N : Nat} (hb : b.toInt = (N : Int)) (h : ¬ (f_SM_isBelow S a b).1 = 0) : vp_in a N := by
  unfold f_SM_isBelow at h
  split at h
  · exact absurd rfl h
  · rename_i h1
    split at h
    · exact absurd rfl h
    · rename_i h2
      exact gw_inB0 hb h2 h1
theorem cb_isBelow4 (S : gw_S) (a : Int32) : (¬ (f_SM_isBelow S a (4 : Int32)).1 = 0 → vp_in a 4) := fun h => cb_isBelow (by decide) h
theorem cb_isBelow16 (S : gw_S) (a : Int32) : (¬ (f_SM_isBelow S a (16 : Int32)).1 = 0 → vp_in a 16) := fun h => cb_isBelow (by decide) h
theorem cb_isBelow32 (S : gw_S) (a : Int32) : (¬ (f_SM_isBelow S a (32 : Int32)).1 = 0 → vp_in a 32) := fun h => cb_isBelow (by decide) h
theorem cb_isBelow40 (S : gw_S) (a : Int32) : (¬ (f_SM_isBelow S a (40 : Int32)).1 = 0 → vp_in a 40) := fun h => cb_isBelow (by decide) h
theorem cb_isBelow64 (S : gw_S) (a : Int32) : (¬ (f_SM_isBelow S a (64 : Int32)).1 = 0 → vp_in a 64) := fun h => cb_isBelow (by decide) h
set_option maxHeartbeats 4000000 in
set_option maxRecDepth 100000 in
theorem po_ok_SM_isBelow   (S : gw_S) (a1 : Int32) (a2 : Int32) (hf_ok : cOK S) : cOK (f_SM_isBelow S a1 a2).2 := by
  unfold f_SM_isBelow
  refine po_if (Φ := fun p : Int32 × gw_S => cOK p.2) (fun h1 => ?_) (fun h1 => ?_)
  · exact hf_ok
  · refine po_if (Φ := fun p : Int32 × gw_S => cOK p.2) (fun h6 => ?_) (fun h6 => ?_)
    · exact hf_ok
    · exact hf_ok
def f_SM_set   (S : gw_S) (a1 : Int32) (a2 : Int32) : Int32 × gw_S := (gw_b (f_SM_isBelow S a1 (32 : Int32)) fun r3 S3 => if r3 = 0 then (((0 : Int32), S3)) else (gw_n (gw_u S3 4 (a1 : Int32).toNatClampNeg ((a2 : Int32).toInt16.toInt32)) fun S21 => ((1 : Int32), S21)))
set_option maxHeartbeats 4000000 in
set_option maxRecDepth 100000 in
theorem c_SM_set (hJ : gw_J 46 ad)   (S : gw_S) (a1 : Int32) (a2 : Int32) : gw_M l y_SM_set prog_1_method_4_code 3 (some .boolean) gTs (gw_rm 1) D gCl (gTys cI cB cC cZ) 46 ad (cE ad cI cB cC) gw_rI [.ref (ad 0), .int a1, .int a2] S (f_SM_set S a1 a2) := by
  refine gw_start gTs_ok (plainFor_of_name (by decide)) hJ (Nat.le_of_ble_eq_true rfl) (fun X A F => ?_)
  refine gw_lve (lv' := [(0, .ref (ad 0)), (1, .int a1), (2, .int a2)]) rfl ?_
  unfold f_SM_set
  refine gw_iload_n (pc := 0) F 1 d_SM_set_0 rfl rfl ?_
  refine gw_bipush (pc := 1) (v := (32 : Int32)) F d_SM_set_1 (by decide) ?_
  refine gw_cS (pc := 3) (As := [.int a1, .int (32 : Int32)]) (rest := []) F (c_SM_isBelow (gw_FJ F) S a1 (32 : Int32)) cw_SM_isBelow cv_SM_isBelow tw_192 rfl (by decide) (by decide) rfl rfl (Nat.le_of_ble_eq_true rfl) d_SM_set_3 (gw_bI (P := fun r U => (¬ r = 0 → vp_in a1 32)) (cb_isBelow32 S a1) (fun r3 S3 p3 => ?_))
  refine gw_if_neS (pc := 6) (tgt := 11) F d_SM_set_6 (by decide) (fun h6 => ?_) (fun h6 => ?_)
  · refine gw_aload_n (pc := 11) F 0 d_SM_set_11 rfl rfl ?_
    refine cg_SM_player (pc := 12) F tw_158 d_SM_set_12 ?_
    refine cgN_Player_variables (pc := 15) F tw_138 d_SM_set_15 ?_
    refine gw_iload_n (pc := 18) F 1 d_SM_set_18 rfl rfl ?_
    refine gw_iload_n (pc := 19) F 2 d_SM_set_19 rfl rfl ?_
    refine gw_i2s (pc := 20) F d_SM_set_20 ?_
    refine cs_Vars (pc := 21) F (p3 h6) d_SM_set_21 ?_
    refine gw_nS (fun S21 E21 => ?_)
    refine gw_iconst (pc := 22) (v := (1 : Int32)) F d_SM_set_22 (by decide) ?_
    exact gw_zret (pc := 23) F d_SM_set_23 rfl
  · refine gw_iconst (pc := 9) (v := (0 : Int32)) F d_SM_set_9 (by decide) ?_
    exact gw_zret (pc := 10) F d_SM_set_10 rfl
set_option maxHeartbeats 4000000 in
set_option maxRecDepth 100000 in
theorem po_ok_SM_set   (S : gw_S) (a1 : Int32) (a2 : Int32) (hf_ok : cOK S) : cOK (f_SM_set S a1 a2).2 := by
  unfold f_SM_set
  refine po_b (Φ := fun p : Int32 × gw_S => cOK p.2) (P := fun r U => cOK U ∧ (¬ r = 0 → vp_in a1 32)) ⟨(po_ok_SM_isBelow S a1 (32 : Int32) hf_ok), (cb_isBelow32 S a1)⟩ (fun r3 S3 p3 => ?_)
  refine po_if (Φ := fun p : Int32 × gw_S => cOK p.2) (fun h6 => ?_) (fun h6 => ?_)
  · exact p3.1
  · refine po_n (Φ := fun p : Int32 × gw_S => cOK p.2) (fun S21 E21 => ?_)
    exact (cOK_v E21 p3.1 (cSh_w _))
def f_SM_get   (S : gw_S) (a1 : Int32) : Int32 × gw_S := (gw_b (f_SM_isBelow S a1 (32 : Int32)) fun r3 S3 => if r3 = 0 then (((0 : Int32), S3)) else (((S3 4 (a1 : Int32).toNatClampNeg), S3)))
set_option maxHeartbeats 4000000 in
set_option maxRecDepth 100000 in
theorem c_SM_get (hJ : gw_J 46 ad)   (S : gw_S) (a1 : Int32) : gw_M l y_SM_get prog_1_method_5_code 2 (some .int) gTs (gw_rm 1) D gCl (gTys cI cB cC cZ) 46 ad (cE ad cI cB cC) gw_rI [.ref (ad 0), .int a1] S (f_SM_get S a1) := by
  refine gw_start gTs_ok (plainFor_of_name (by decide)) hJ (Nat.le_of_ble_eq_true rfl) (fun X A F => ?_)
  refine gw_lve (lv' := [(0, .ref (ad 0)), (1, .int a1)]) rfl ?_
  unfold f_SM_get
  refine gw_iload_n (pc := 0) F 1 d_SM_get_0 rfl rfl ?_
  refine gw_bipush (pc := 1) (v := (32 : Int32)) F d_SM_get_1 (by decide) ?_
  refine gw_cS (pc := 3) (As := [.int a1, .int (32 : Int32)]) (rest := []) F (c_SM_isBelow (gw_FJ F) S a1 (32 : Int32)) cw_SM_isBelow cv_SM_isBelow tw_192 rfl (by decide) (by decide) rfl rfl (Nat.le_of_ble_eq_true rfl) d_SM_get_3 (gw_bI (P := fun r U => (¬ r = 0 → vp_in a1 32)) (cb_isBelow32 S a1) (fun r3 S3 p3 => ?_))
  refine gw_if_eqS (pc := 6) (tgt := 21) F d_SM_get_6 (by decide) (fun h6 => ?_) (fun h6 => ?_)
  · refine gw_iconst (pc := 21) (v := (0 : Int32)) F d_SM_get_21 (by decide) ?_
    exact gw_iret (pc := 22) F d_SM_get_22
  · refine gw_aload_n (pc := 9) F 0 d_SM_get_9 rfl rfl ?_
    refine cg_SM_player (pc := 10) F tw_158 d_SM_get_10 ?_
    refine cgN_Player_variables (pc := 13) F tw_138 d_SM_get_13 ?_
    refine gw_iload_n (pc := 16) F 1 d_SM_get_16 rfl rfl ?_
    refine cl_Vars (pc := 17) F (p3 h6) d_SM_get_17 ?_
    refine gw_goto (pc := 18) (tgt := 22) F d_SM_get_18 (by decide) ?_
    exact gw_iret (pc := 22) F d_SM_get_22
set_option maxHeartbeats 4000000 in
set_option maxRecDepth 100000 in
theorem po_ok_SM_get   (S : gw_S) (a1 : Int32) (hf_ok : cOK S) : cOK (f_SM_get S a1).2 := by
  unfold f_SM_get
  refine po_b (Φ := fun p : Int32 × gw_S => cOK p.2) (P := fun r U => cOK U ∧ (¬ r = 0 → vp_in a1 32)) ⟨(po_ok_SM_isBelow S a1 (32 : Int32) hf_ok), (cb_isBelow32 S a1)⟩ (fun r3 S3 p3 => ?_)
  refine po_if (Φ := fun p : Int32 × gw_S => cOK p.2) (fun h6 => ?_) (fun h6 => ?_)
  · exact p3.1
  · exact p3.1
def f_SM_ask   (S : gw_S) (a1 : Int32) (a2 : Int32) : Int32 × gw_S := (gw_b (f_SM_isBelow S a1 (16 : Int32)) fun r3 S3 => if r3 = 0 then (((0 : Int32), S3)) else (if a2 < (-1 : Int32) then (((0 : Int32), S3)) else (if a2 ≤ (1023 : Int32) then (gw_n (gw_u S3 ((a1 : Int32).toNatClampNeg + 14) 5 a2) fun S33 => ((1 : Int32), S33)) else (((0 : Int32), S3)))))
set_option maxHeartbeats 4000000 in
set_option maxRecDepth 100000 in
theorem c_SM_ask (hJ : gw_J 46 ad)   (S : gw_S) (a1 : Int32) (a2 : Int32) : gw_M l y_SM_ask prog_1_method_6_code 3 (some .boolean) gTs (gw_rm 1) D gCl (gTys cI cB cC cZ) 46 ad (cE ad cI cB cC) gw_rI [.ref (ad 0), .int a1, .int a2] S (f_SM_ask S a1 a2) := by
  refine gw_start gTs_ok (plainFor_of_name (by decide)) hJ (Nat.le_of_ble_eq_true rfl) (fun X A F => ?_)
  refine gw_lve (lv' := [(0, .ref (ad 0)), (1, .int a1), (2, .int a2)]) rfl ?_
  unfold f_SM_ask
  refine gw_iload_n (pc := 0) F 1 d_SM_ask_0 rfl rfl ?_
  refine gw_bipush (pc := 1) (v := (16 : Int32)) F d_SM_ask_1 (by decide) ?_
  refine gw_cS (pc := 3) (As := [.int a1, .int (16 : Int32)]) (rest := []) F (c_SM_isBelow (gw_FJ F) S a1 (16 : Int32)) cw_SM_isBelow cv_SM_isBelow tw_192 rfl (by decide) (by decide) rfl rfl (Nat.le_of_ble_eq_true rfl) d_SM_ask_3 (gw_bI (P := fun r U => (¬ r = 0 → vp_in a1 16)) (cb_isBelow16 S a1) (fun r3 S3 p3 => ?_))
  refine gw_if_eqS (pc := 6) (tgt := 21) F d_SM_ask_6 (by decide) (fun h6 => ?_) (fun h6 => ?_)
  · refine gw_iconst (pc := 21) (v := (0 : Int32)) F d_SM_ask_21 (by decide) ?_
    exact gw_zret (pc := 22) F d_SM_ask_22 rfl
  · refine gw_iload_n (pc := 9) F 2 d_SM_ask_9 rfl rfl ?_
    refine gw_iconst (pc := 10) (v := (-1 : Int32)) F d_SM_ask_10 (by decide) ?_
    refine gw_icmp_ltS (pc := 11) (tgt := 21) F d_SM_ask_11 (by decide) (fun h11 => ?_) (fun h11 => ?_)
    · refine gw_iconst (pc := 21) (v := (0 : Int32)) F d_SM_ask_21 (by decide) ?_
      exact gw_zret (pc := 22) F d_SM_ask_22 rfl
    · refine gw_iload_n (pc := 14) F 2 d_SM_ask_14 rfl rfl ?_
      refine gw_sipush (pc := 15) (v := (1023 : Int32)) F d_SM_ask_15 (by decide) ?_
      refine gw_icmp_leS (pc := 18) (tgt := 23) F d_SM_ask_18 (by decide) (fun h18 => ?_) (fun h18 => ?_)
      · refine gw_aload_n (pc := 23) F 0 d_SM_ask_23 rfl rfl ?_
        refine cg_SM_player (pc := 24) F tw_158 d_SM_ask_24 ?_
        refine cgN_Player_channels (pc := 27) F tw_140 d_SM_ask_27 ?_
        refine gw_iload_n (pc := 30) F 1 d_SM_ask_30 rfl rfl ?_
        refine cl_Chans (pc := 31) F (p3 h6) d_SM_ask_31 ?_
        refine gw_iload_n (pc := 32) F 2 d_SM_ask_32 rfl rfl ?_
        refine cpN_Channel_askedAddress (pc := 33) F (gw_inlt (p3 h6)) tw_116 d_SM_ask_33 ?_
        refine gw_nS (fun S33 E33 => ?_)
        refine gw_iconst (pc := 36) (v := (1 : Int32)) F d_SM_ask_36 (by decide) ?_
        exact gw_zret (pc := 37) F d_SM_ask_37 rfl
      · refine gw_iconst (pc := 21) (v := (0 : Int32)) F d_SM_ask_21 (by decide) ?_
        exact gw_zret (pc := 22) F d_SM_ask_22 rfl
set_option maxHeartbeats 4000000 in
set_option maxRecDepth 100000 in
theorem po_ok_SM_ask   (S : gw_S) (a1 : Int32) (a2 : Int32) (hf_ok : cOK S) : cOK (f_SM_ask S a1 a2).2 := by
  unfold f_SM_ask
  refine po_b (Φ := fun p : Int32 × gw_S => cOK p.2) (P := fun r U => cOK U ∧ (¬ r = 0 → vp_in a1 16)) ⟨(po_ok_SM_isBelow S a1 (16 : Int32) hf_ok), (cb_isBelow16 S a1)⟩ (fun r3 S3 p3 => ?_)
  refine po_if (Φ := fun p : Int32 × gw_S => cOK p.2) (fun h6 => ?_) (fun h6 => ?_)
  · exact p3.1
  · refine po_if (Φ := fun p : Int32 × gw_S => cOK p.2) (fun h11 => ?_) (fun h11 => ?_)
    · exact p3.1
    · refine po_if (Φ := fun p : Int32 × gw_S => cOK p.2) (fun h18 => ?_) (fun h18 => ?_)
      · refine po_n (Φ := fun p : Int32 × gw_S => cOK p.2) (fun S33 E33 => ?_)
        exact (cOK_o E33 p3.1 (by omega))
      · exact p3.1
def f_SM_channel   (S : gw_S) (a1 : Int32) (a2 : Int32) : Int32 × gw_S := (gw_b (f_SM_isBelow S a1 (16 : Int32)) fun r3 S3 => if r3 = 0 then (((-1 : Int32), S3)) else (if a2 = 0 then (((S3 ((a1 : Int32).toNatClampNeg + 14) 2), S3)) else (if a2 = 1 then (if (S3 ((a1 : Int32).toNatClampNeg + 14) 3) = 0 then (((0 : Int32), S3)) else (((1 : Int32), S3))) else (if a2 = 2 then (((S3 ((a1 : Int32).toNatClampNeg + 14) 1), S3)) else (if a2 = 3 then (((S3 ((a1 : Int32).toNatClampNeg + 14) 4), S3)) else (if a2 = 4 then (((S3 ((a1 : Int32).toNatClampNeg + 14) 5), S3)) else (((-1 : Int32), S3))))))))
set_option maxHeartbeats 4000000 in
set_option maxRecDepth 100000 in
theorem c_SM_channel (hJ : gw_J 46 ad)   (S : gw_S) (a1 : Int32) (a2 : Int32) : gw_M l y_SM_channel prog_1_method_8_code 4 (some .int) gTs (gw_rm 1) D gCl (gTys cI cB cC cZ) 46 ad (cE ad cI cB cC) gw_rI [.ref (ad 0), .int a1, .int a2] S (f_SM_channel S a1 a2) := by
  refine gw_start gTs_ok (plainFor_of_name (by decide)) hJ (Nat.le_of_ble_eq_true rfl) (fun X A F => ?_)
  refine gw_lve (lv' := [(0, .ref (ad 0)), (1, .int a1), (2, .int a2)]) rfl ?_
  unfold f_SM_channel
  refine gw_iload_n (pc := 0) F 1 d_SM_channel_0 rfl rfl ?_
  refine gw_bipush (pc := 1) (v := (16 : Int32)) F d_SM_channel_1 (by decide) ?_
  refine gw_cS (pc := 3) (As := [.int a1, .int (16 : Int32)]) (rest := []) F (c_SM_isBelow (gw_FJ F) S a1 (16 : Int32)) cw_SM_isBelow cv_SM_isBelow tw_192 rfl (by decide) (by decide) rfl rfl (Nat.le_of_ble_eq_true rfl) d_SM_channel_3 (gw_bI (P := fun r U => (¬ r = 0 → vp_in a1 16)) (cb_isBelow16 S a1) (fun r3 S3 p3 => ?_))
  refine gw_if_neS (pc := 6) (tgt := 11) F d_SM_channel_6 (by decide) (fun h6 => ?_) (fun h6 => ?_)
  · refine gw_aload_n (pc := 11) F 0 d_SM_channel_11 rfl rfl ?_
    refine cg_SM_player (pc := 12) F tw_158 d_SM_channel_12 ?_
    refine cgN_Player_channels (pc := 15) F tw_140 d_SM_channel_15 ?_
    refine gw_iload_n (pc := 18) F 1 d_SM_channel_18 rfl rfl ?_
    refine cl_Chans (pc := 19) F (p3 h6) d_SM_channel_19 ?_
    refine gw_astore_n (pc := 20) (lv' := [(3, .ref (ad ((a1 : Int32).toNatClampNeg + 14))), (0, .ref (ad 0)), (1, .int a1), (2, .int a2)]) F d_SM_channel_20 rfl (by decide) rfl ?_
    refine gw_iload_n (pc := 21) F 3 d_SM_channel_21 rfl rfl ?_
    refine gw_spl (fun h22_0 => ?_) (fun h22_0 => ?_)
    · refine gw_tableIn (pc := 22) (tgt := 56) F d_SM_channel_22 h22_0 (by decide) (by decide) rfl (by decide) ?_
      refine gw_aload_n (pc := 56) F 0 d_SM_channel_56 rfl rfl ?_
      refine cgN_Channel_address (pc := 57) F (gw_inlt (p3 h6)) tw_109 d_SM_channel_57 ?_
      exact gw_iret (pc := 60) F d_SM_channel_60
    refine gw_spl (fun h22_1 => ?_) (fun h22_1 => ?_)
    · refine gw_tableIn (pc := 22) (tgt := 61) F d_SM_channel_22 h22_1 (by decide) (by decide) rfl (by decide) ?_
      refine gw_aload_n (pc := 61) F 0 d_SM_channel_61 rfl rfl ?_
      refine cgN_Channel_paused (pc := 62) F (gw_inlt (p3 h6)) tw_111 d_SM_channel_62 ?_
      refine gw_if_eqS (pc := 65) (tgt := 72) F d_SM_channel_65 (by decide) (fun h65 => ?_) (fun h65 => ?_)
      · refine gw_iconst (pc := 72) (v := (0 : Int32)) F d_SM_channel_72 (by decide) ?_
        exact gw_iret (pc := 73) F d_SM_channel_73
      · refine gw_iconst (pc := 68) (v := (1 : Int32)) F d_SM_channel_68 (by decide) ?_
        refine gw_goto (pc := 69) (tgt := 73) F d_SM_channel_69 (by decide) ?_
        exact gw_iret (pc := 73) F d_SM_channel_73
    refine gw_spl (fun h22_2 => ?_) (fun h22_2 => ?_)
    · refine gw_tableIn (pc := 22) (tgt := 74) F d_SM_channel_22 h22_2 (by decide) (by decide) rfl (by decide) ?_
      refine gw_aload_n (pc := 74) F 0 d_SM_channel_74 rfl rfl ?_
      refine cgN_Channel_returns (pc := 75) F (gw_inlt (p3 h6)) tw_106 d_SM_channel_75 ?_
      exact gw_iret (pc := 78) F d_SM_channel_78
    refine gw_spl (fun h22_3 => ?_) (fun h22_3 => ?_)
    · refine gw_tableIn (pc := 22) (tgt := 79) F d_SM_channel_22 h22_3 (by decide) (by decide) rfl (by decide) ?_
      refine gw_aload_n (pc := 79) F 0 d_SM_channel_79 rfl rfl ?_
      refine cgN_Channel_latestFault (pc := 80) F (gw_inlt (p3 h6)) tw_113 d_SM_channel_80 ?_
      exact gw_iret (pc := 83) F d_SM_channel_83
    refine gw_spl (fun h22_4 => ?_) (fun h22_4 => ?_)
    · refine gw_tableIn (pc := 22) (tgt := 84) F d_SM_channel_22 h22_4 (by decide) (by decide) rfl (by decide) ?_
      refine gw_aload_n (pc := 84) F 0 d_SM_channel_84 rfl rfl ?_
      refine cgN_Channel_askedAddress (pc := 85) F (gw_inlt (p3 h6)) tw_116 d_SM_channel_85 ?_
      exact gw_iret (pc := 88) F d_SM_channel_88
    refine gw_tableOut (pc := 22) (tgt := 89) F d_SM_channel_22 (by have ne_0 : ¬ (a2 : Int32).toInt = 0 := gw_ne h22_0; have ne_1 : ¬ (a2 : Int32).toInt = 1 := gw_ne h22_1; have ne_2 : ¬ (a2 : Int32).toInt = 2 := gw_ne h22_2; have ne_3 : ¬ (a2 : Int32).toInt = 3 := gw_ne h22_3; have ne_4 : ¬ (a2 : Int32).toInt = 4 := gw_ne h22_4; omega) (by decide) ?_
    refine gw_iconst (pc := 89) (v := (-1 : Int32)) F d_SM_channel_89 (by decide) ?_
    exact gw_iret (pc := 90) F d_SM_channel_90
  · refine gw_iconst (pc := 9) (v := (-1 : Int32)) F d_SM_channel_9 (by decide) ?_
    exact gw_iret (pc := 10) F d_SM_channel_10
set_option maxHeartbeats 4000000 in
set_option maxRecDepth 100000 in
theorem po_ok_SM_channel   (S : gw_S) (a1 : Int32) (a2 : Int32) (hf_ok : cOK S) : cOK (f_SM_channel S a1 a2).2 := by
  unfold f_SM_channel
  refine po_b (Φ := fun p : Int32 × gw_S => cOK p.2) (P := fun r U => cOK U ∧ (¬ r = 0 → vp_in a1 16)) ⟨(po_ok_SM_isBelow S a1 (16 : Int32) hf_ok), (cb_isBelow16 S a1)⟩ (fun r3 S3 p3 => ?_)
  refine po_if (Φ := fun p : Int32 × gw_S => cOK p.2) (fun h6 => ?_) (fun h6 => ?_)
  · exact p3.1
  · refine po_if (Φ := fun p : Int32 × gw_S => cOK p.2) (fun h22_0 => ?_) (fun h22_0 => ?_)
    · exact p3.1
    refine po_if (Φ := fun p : Int32 × gw_S => cOK p.2) (fun h22_1 => ?_) (fun h22_1 => ?_)
    · refine po_if (Φ := fun p : Int32 × gw_S => cOK p.2) (fun h65 => ?_) (fun h65 => ?_)
      · exact p3.1
      · exact p3.1
    refine po_if (Φ := fun p : Int32 × gw_S => cOK p.2) (fun h22_2 => ?_) (fun h22_2 => ?_)
    · exact p3.1
    refine po_if (Φ := fun p : Int32 × gw_S => cOK p.2) (fun h22_3 => ?_) (fun h22_3 => ?_)
    · exact p3.1
    refine po_if (Φ := fun p : Int32 × gw_S => cOK p.2) (fun h22_4 => ?_) (fun h22_4 => ?_)
    · exact p3.1
    exact p3.1
def f_SM_about   (S : gw_S) (a1 : Int32) : Int32 × gw_S := (if a1 = 0 then (((S 9 1), S)) else (if a1 = 1 then (((S 9 2), S)) else (if a1 = 2 then (((S 0 1), S)) else (if a1 = 3 then (((S 0 2), S)) else (if a1 = 4 then (((S 6 7), S)) else (if a1 = 5 then (((S 6 6), S)) else (((-1 : Int32), S))))))))
set_option maxHeartbeats 4000000 in
set_option maxRecDepth 100000 in
theorem c_SM_about (hJ : gw_J 46 ad)   (S : gw_S) (a1 : Int32) : gw_M l y_SM_about prog_1_method_10_code 2 (some .int) gTs (gw_rm 0) D gCl (gTys cI cB cC cZ) 46 ad (cE ad cI cB cC) gw_rI [.ref (ad 0), .int a1] S (f_SM_about S a1) := by
  refine gw_start gTs_ok (plainFor_of_name (by decide)) hJ (Nat.le_of_ble_eq_true rfl) (fun X A F => ?_)
  refine gw_lve (lv' := [(0, .ref (ad 0)), (1, .int a1)]) rfl ?_
  unfold f_SM_about
  refine gw_iload_n (pc := 0) F 1 d_SM_about_0 rfl rfl ?_
  refine gw_spl (fun h1_0 => ?_) (fun h1_0 => ?_)
  · refine gw_tableIn (pc := 1) (tgt := 40) F d_SM_about_1 h1_0 (by decide) (by decide) rfl (by decide) ?_
    refine gw_aload_n (pc := 40) F 0 d_SM_about_40 rfl rfl ?_
    refine cg_SM_player (pc := 41) F tw_158 d_SM_about_41 ?_
    refine cgN_Player_painter (pc := 44) F tw_142 d_SM_about_44 ?_
    refine cgN_Painter_pages (pc := 47) F tw_71 d_SM_about_47 ?_
    refine cgN_Pages_working (pc := 50) F tw_55 d_SM_about_50 ?_
    exact gw_iret (pc := 53) F d_SM_about_53
  refine gw_spl (fun h1_1 => ?_) (fun h1_1 => ?_)
  · refine gw_tableIn (pc := 1) (tgt := 54) F d_SM_about_1 h1_1 (by decide) (by decide) rfl (by decide) ?_
    refine gw_aload_n (pc := 54) F 0 d_SM_about_54 rfl rfl ?_
    refine cg_SM_player (pc := 55) F tw_158 d_SM_about_55 ?_
    refine cgN_Player_painter (pc := 58) F tw_142 d_SM_about_58 ?_
    refine cgN_Painter_pages (pc := 61) F tw_71 d_SM_about_61 ?_
    refine cgN_Pages_shown (pc := 64) F tw_58 d_SM_about_64 ?_
    exact gw_iret (pc := 67) F d_SM_about_67
  refine gw_spl (fun h1_2 => ?_) (fun h1_2 => ?_)
  · refine gw_tableIn (pc := 1) (tgt := 68) F d_SM_about_1 h1_2 (by decide) (by decide) rfl (by decide) ?_
    refine gw_aload_n (pc := 68) F 0 d_SM_about_68 rfl rfl ?_
    refine cg_SM_frames (pc := 69) F tw_159 d_SM_about_69 ?_
    exact gw_iret (pc := 72) F d_SM_about_72
  refine gw_spl (fun h1_3 => ?_) (fun h1_3 => ?_)
  · refine gw_tableIn (pc := 1) (tgt := 73) F d_SM_about_1 h1_3 (by decide) (by decide) rfl (by decide) ?_
    refine gw_aload_n (pc := 73) F 0 d_SM_about_73 rfl rfl ?_
    refine cg_SM_instructionsDone (pc := 74) F tw_160 d_SM_about_74 ?_
    exact gw_iret (pc := 77) F d_SM_about_77
  refine gw_spl (fun h1_4 => ?_) (fun h1_4 => ?_)
  · refine gw_tableIn (pc := 1) (tgt := 78) F d_SM_about_1 h1_4 (by decide) (by decide) rfl (by decide) ?_
    refine gw_aload_n (pc := 78) F 0 d_SM_about_78 rfl rfl ?_
    refine cg_SM_player (pc := 79) F tw_158 d_SM_about_79 ?_
    refine cgN_Player_painter (pc := 82) F tw_142 d_SM_about_82 ?_
    refine cgN_Painter_rowsInFrame (pc := 85) F tw_81 d_SM_about_85 ?_
    exact gw_iret (pc := 88) F d_SM_about_88
  refine gw_spl (fun h1_5 => ?_) (fun h1_5 => ?_)
  · refine gw_tableIn (pc := 1) (tgt := 89) F d_SM_about_1 h1_5 (by decide) (by decide) rfl (by decide) ?_
    refine gw_aload_n (pc := 89) F 0 d_SM_about_89 rfl rfl ?_
    refine cg_SM_player (pc := 90) F tw_158 d_SM_about_90 ?_
    refine cgN_Player_painter (pc := 93) F tw_142 d_SM_about_93 ?_
    refine cgN_Painter_begunInFrame (pc := 96) F tw_79 d_SM_about_96 ?_
    exact gw_iret (pc := 99) F d_SM_about_99
  refine gw_tableOut (pc := 1) (tgt := 100) F d_SM_about_1 (by have ne_0 : ¬ (a1 : Int32).toInt = 0 := gw_ne h1_0; have ne_1 : ¬ (a1 : Int32).toInt = 1 := gw_ne h1_1; have ne_2 : ¬ (a1 : Int32).toInt = 2 := gw_ne h1_2; have ne_3 : ¬ (a1 : Int32).toInt = 3 := gw_ne h1_3; have ne_4 : ¬ (a1 : Int32).toInt = 4 := gw_ne h1_4; have ne_5 : ¬ (a1 : Int32).toInt = 5 := gw_ne h1_5; omega) (by decide) ?_
  refine gw_iconst (pc := 100) (v := (-1 : Int32)) F d_SM_about_100 (by decide) ?_
  exact gw_iret (pc := 101) F d_SM_about_101
set_option maxHeartbeats 4000000 in
set_option maxRecDepth 100000 in
theorem po_ok_SM_about   (S : gw_S) (a1 : Int32) (hf_ok : cOK S) : cOK (f_SM_about S a1).2 := by
  unfold f_SM_about
  refine po_if (Φ := fun p : Int32 × gw_S => cOK p.2) (fun h1_0 => ?_) (fun h1_0 => ?_)
  · exact hf_ok
  refine po_if (Φ := fun p : Int32 × gw_S => cOK p.2) (fun h1_1 => ?_) (fun h1_1 => ?_)
  · exact hf_ok
  refine po_if (Φ := fun p : Int32 × gw_S => cOK p.2) (fun h1_2 => ?_) (fun h1_2 => ?_)
  · exact hf_ok
  refine po_if (Φ := fun p : Int32 × gw_S => cOK p.2) (fun h1_3 => ?_) (fun h1_3 => ?_)
  · exact hf_ok
  refine po_if (Φ := fun p : Int32 × gw_S => cOK p.2) (fun h1_4 => ?_) (fun h1_4 => ?_)
  · exact hf_ok
  refine po_if (Φ := fun p : Int32 × gw_S => cOK p.2) (fun h1_5 => ?_) (fun h1_5 => ?_)
  · exact hf_ok
  exact hf_ok
def f_SM_bytesOf   (S : gw_S) (a1 : Int32) : (Option Nat) × gw_S := (if a1 = 0 then ((some 2, S)) else (if a1 = (1 : Int32) then ((some 7, S)) else (((none : Option Nat), S))))
set_option maxHeartbeats 4000000 in
set_option maxRecDepth 100000 in
theorem c_SM_bytesOf (hJ : gw_J 46 ad)   (S : gw_S) (a1 : Int32) : gw_M l y_SM_bytesOf prog_1_method_11_code 2 (some (.object "StageMachine$Bytes")) gTs (gw_rm 0) D gCl (gTys cI cB cC cZ) 46 ad (cE ad cI cB cC) (gw_rA ad) [.ref (ad 0), .int a1] S (f_SM_bytesOf S a1) := by
  refine gw_start gTs_ok (plainFor_of_name (by decide)) hJ (Nat.le_of_ble_eq_true rfl) (fun X A F => ?_)
  refine gw_lve (lv' := [(0, .ref (ad 0)), (1, .int a1)]) rfl ?_
  unfold f_SM_bytesOf
  refine gw_iload_n (pc := 0) F 1 d_SM_bytesOf_0 rfl rfl ?_
  refine gw_if_neS (pc := 1) (tgt := 12) F d_SM_bytesOf_1 (by decide) (fun h1 => ?_) (fun h1 => ?_)
  · refine gw_iload_n (pc := 12) F 1 d_SM_bytesOf_12 rfl rfl ?_
    refine gw_iconst (pc := 13) (v := (1 : Int32)) F d_SM_bytesOf_13 (by decide) ?_
    refine gw_icmp_neS (pc := 14) (tgt := 30) F d_SM_bytesOf_14 (by decide) (fun h14 => ?_) (fun h14 => ?_)
    · refine gw_null (pc := 30) F d_SM_bytesOf_30 ?_
      exact gw_aretN (pc := 31) F (Or.inl ⟨_, rfl⟩) d_SM_bytesOf_31
    · refine gw_aload_n (pc := 17) F 0 d_SM_bytesOf_17 rfl rfl ?_
      refine cg_SM_player (pc := 18) F tw_158 d_SM_bytesOf_18 ?_
      refine cgN_Player_painter (pc := 21) F tw_142 d_SM_bytesOf_21 ?_
      refine cgN_Painter_shapes (pc := 24) F tw_69 d_SM_bytesOf_24 ?_
      refine gw_goto (pc := 27) (tgt := 31) F d_SM_bytesOf_27 (by decide) ?_
      exact gw_aret (pc := 31) F (Or.inl ⟨_, rfl⟩) d_SM_bytesOf_31
  · refine gw_aload_n (pc := 4) F 0 d_SM_bytesOf_4 rfl rfl ?_
    refine cg_SM_player (pc := 5) F tw_158 d_SM_bytesOf_5 ?_
    refine cgN_Player_program (pc := 8) F tw_136 d_SM_bytesOf_8 ?_
    exact gw_aret (pc := 11) F (Or.inl ⟨_, rfl⟩) d_SM_bytesOf_11
theorem cb_bytesOf0 {S : gw_S} {a : Int32} (h : a = 0) : f_SM_bytesOf S a = (some 2, S) := by unfold f_SM_bytesOf; rw [if_pos h]
theorem cb_bytesOf1 {S : gw_S} {a : Int32} (h : ¬ a = 0) (h2 : a = 1) : f_SM_bytesOf S a = (some 7, S) := by unfold f_SM_bytesOf; rw [if_neg h, if_pos h2]
theorem cb_bytesOfN {S : gw_S} {a : Int32} (h : ¬ a = 0) (h2 : ¬ a = 1) : f_SM_bytesOf S a = (none, S) := by unfold f_SM_bytesOf; rw [if_neg h, if_neg h2]
def fl_SM_put_28   (b : Nat) (a2 : Int32) (a3 : Int32) (n : Nat) : gw_S → Int32 → Int32 × gw_S := gw_L1 (fun self S x5 => (if (4 : Int32) ≤ x5 then (((1 : Int32), S)) else (gw_b (f_Bytes_write b S (a2 + x5) (a3 >>> (((24 : Int32) - ((8 : Int32) * x5)) &&& 31))) fun _ S50 => (self S50 (x5 + (1 : Int32)))))) (fun S _ => (0, S)) n
set_option maxHeartbeats 4000000 in
set_option maxRecDepth 100000 in
theorem l_SM_put_28 {X : gx_M} {A : Nat → Prop}  (F : gw_F X l prog_1_method_2_code 6 (some .boolean) "StageMachine" gTs (gw_rm 1) D gCl (gTys cI cB cC cZ) 46 ad A) {b : Nat} (hb : b = 2 ∨ b = 7) (a2 : Int32) (a3 : Int32) : ∀ (n : Nat) (S : gw_S) (x5 : Int32), 0 < n → ((4 : Int32) : Int32).toInt - x5.toInt < (n : Int) → 0 ≤ x5.toInt → gw_V X (gw_P D gCl 46 ad (cE ad cI cB cC)) A 6 gw_rI S 28 [(2, .int a2), (3, .int a3), (4, .ref (ad b)), (5, .int x5)] [] (fl_SM_put_28 b a2 a3 n S x5) := by
  intro n
  induction n with
  | zero => intro S x5 hn hf h0; exact absurd hn (Nat.lt_irrefl 0)
  | succ n ih =>
    intro S x5 hn hf h0
    refine gw_iload (pc := 28) F 3 d_SM_put_28 rfl ?_
    refine gw_iconst (pc := 30) (v := (4 : Int32)) F d_SM_put_30 (by decide) ?_
    refine gw_icmp_geS (pc := 31) (tgt := 59) F d_SM_put_31 (by decide) (fun h31 => ?_) (fun h31 => ?_)
    · refine gw_iconst (pc := 59) (v := (1 : Int32)) F d_SM_put_59 (by decide) ?_
      exact gw_zret (pc := 60) F d_SM_put_60 rfl
    · refine gw_aload (pc := 34) F 2 d_SM_put_34 rfl ?_
      refine gw_iload_n (pc := 36) F 0 d_SM_put_36 rfl rfl ?_
      refine gw_iload (pc := 37) F 3 d_SM_put_37 rfl ?_
      refine gw_iadd (pc := 39) F d_SM_put_39 ?_
      refine gw_iload_n (pc := 40) F 1 d_SM_put_40 rfl rfl ?_
      refine gw_bipush (pc := 41) (v := (24 : Int32)) F d_SM_put_41 (by decide) ?_
      refine gw_bipush (pc := 43) (v := (8 : Int32)) F d_SM_put_43 (by decide) ?_
      refine gw_iload (pc := 45) F 3 d_SM_put_45 rfl ?_
      refine gw_imul (pc := 47) F d_SM_put_47 ?_
      refine gw_isub (pc := 48) F d_SM_put_48 ?_
      refine gw_ishr (pc := 49) F d_SM_put_49 ?_
      refine gw_cV (pc := 50) (As := [.int (a2 + x5), .int (a3 >>> (((24 : Int32) - ((8 : Int32) * x5)) &&& 31))]) (rest := []) F (c_Bytes_write (gw_FJ F) hb S (a2 + x5) (a3 >>> (((24 : Int32) - ((8 : Int32) * x5)) &&& 31))) cw_Bytes_write cv_Bytes_write tw_176 rfl (by decide) (by decide) (chi_Bytes hb) (cE_Bytes hb) rfl rfl rfl rfl (Nat.le_of_ble_eq_true rfl) d_SM_put_50 (gw_bV (P := fun _ U => True) trivial (fun _ S50 p50 => ?_))
      refine gw_iinc (pc := 53) (v := (x5 + (1 : Int32))) (lv' := [(5, .int (x5 + (1 : Int32))), (2, .int a2), (3, .int a3), (4, .ref (ad b))]) F 3 d_SM_put_53 rfl (congrArg (HAdd.hAdd x5) (by decide)) (by decide) rfl ?_
      refine gw_goto (pc := 56) (tgt := 28) F d_SM_put_56 (by decide) ?_
      refine gw_lvs (lv' := [(2, .int a2), (3, .int a3), (4, .ref (ad b)), (5, .int (x5 + (1 : Int32)))]) [1, 2, 3, 0] rfl ?_
      exact ih S50 (x5 + (1 : Int32)) (gw_stp h31 hf).1 (gw_stp h31 hf).2.1 (gw_stp0 h31 h0)
def f_SM_put   (S : gw_S) (a1 : Int32) (a2 : Int32) (a3 : Int32) : Int32 × gw_S := (if a1 = 0 then (if a2 < 0 then (((0 : Int32), S)) else (if a2 ≤ (1020 : Int32) then (fl_SM_put_28 2 a2 a3 ((((4 : Int32) : Int32).toInt - ((0 : Int32) : Int32).toInt).toNat + 1) S (0 : Int32)) else (((0 : Int32), S)))) else (if a1 = 1 then (if a2 < 0 then (((0 : Int32), S)) else (if a2 ≤ (1020 : Int32) then (fl_SM_put_28 7 a2 a3 ((((4 : Int32) : Int32).toInt - ((0 : Int32) : Int32).toInt).toNat + 1) S (0 : Int32)) else (((0 : Int32), S)))) else (((0 : Int32), S))))
set_option maxHeartbeats 4000000 in
set_option maxRecDepth 100000 in
theorem c_SM_put (hJ : gw_J 46 ad)   (S : gw_S) (a1 : Int32) (a2 : Int32) (a3 : Int32) : gw_M l y_SM_put prog_1_method_2_code 6 (some .boolean) gTs (gw_rm 1) D gCl (gTys cI cB cC cZ) 46 ad (cE ad cI cB cC) gw_rI [.ref (ad 0), .int a1, .int a2, .int a3] S (f_SM_put S a1 a2 a3) := by
  refine gw_start gTs_ok (plainFor_of_name (by decide)) hJ (Nat.le_of_ble_eq_true rfl) (fun X A F => ?_)
  refine gw_lve (lv' := [(0, .ref (ad 0)), (1, .int a1), (2, .int a2), (3, .int a3)]) rfl ?_
  unfold f_SM_put
  refine gw_aload_n (pc := 0) F 0 d_SM_put_0 rfl rfl ?_
  refine gw_iload_n (pc := 1) F 1 d_SM_put_1 rfl rfl ?_
  refine gw_spl (fun hA => ?_) (fun hA => ?_)
  · refine gw_cV (pc := 2) (As := [.int a1]) (rest := []) F (gw_Me (cb_bytesOf0 (S := S) hA) (c_SM_bytesOf (gw_FJ F) S a1)) cw_SM_bytesOf cv_SM_bytesOf tw_172 rfl (by decide) (by decide) (by decide) cE_SM rfl rfl rfl rfl (Nat.le_of_ble_eq_true rfl) d_SM_put_2 ?_
    refine gw_to (S' := S) (st' := [.ref (ad 2)]) rfl rfl ?_
    refine gw_astore (pc := 5) (lv' := [(4, .ref (ad 2)), (0, .ref (ad 0)), (1, .int a1), (2, .int a2), (3, .int a3)]) F d_SM_put_5 (by decide) rfl ?_
    refine gw_aload (pc := 7) F 0 d_SM_put_7 rfl ?_
    refine gw_ifnull (pc := 9) F d_SM_put_9 ?_
    refine gw_iload_n (pc := 12) F 3 d_SM_put_12 rfl rfl ?_
    refine gw_if_ltS (pc := 13) (tgt := 23) F d_SM_put_13 (by decide) (fun h13 => ?_) (fun h13 => ?_)
    · refine gw_iconst (pc := 23) (v := (0 : Int32)) F d_SM_put_23 (by decide) ?_
      exact gw_zret (pc := 24) F d_SM_put_24 rfl
    · refine gw_iload_n (pc := 16) F 3 d_SM_put_16 rfl rfl ?_
      refine gw_sipush (pc := 17) (v := (1020 : Int32)) F d_SM_put_17 (by decide) ?_
      refine gw_icmp_leS (pc := 20) (tgt := 25) F d_SM_put_20 (by decide) (fun h20 => ?_) (fun h20 => ?_)
      · refine gw_iconst (pc := 25) (v := (0 : Int32)) F d_SM_put_25 (by decide) ?_
        refine gw_istore (pc := 26) (lv' := [(5, .int (0 : Int32)), (4, .ref (ad 2)), (0, .ref (ad 0)), (1, .int a1), (2, .int a2), (3, .int a3)]) F d_SM_put_26 (by decide) rfl ?_
        refine gw_lvs (lv' := [(2, .int a2), (3, .int a3), (4, .ref (ad 2)), (5, .int (0 : Int32))]) [4, 5, 1, 0] rfl ?_
        exact l_SM_put_28  F (Or.inl rfl) a2 a3  ((((4 : Int32) : Int32).toInt - ((0 : Int32) : Int32).toInt).toNat + 1) S (0 : Int32) (Nat.succ_pos _) (gw_ent _) (by decide)
      · refine gw_iconst (pc := 23) (v := (0 : Int32)) F d_SM_put_23 (by decide) ?_
        exact gw_zret (pc := 24) F d_SM_put_24 rfl
  refine gw_spl (fun hB => ?_) (fun hB => ?_)
  · refine gw_cV (pc := 2) (As := [.int a1]) (rest := []) F (gw_Me (cb_bytesOf1 (S := S) hA hB) (c_SM_bytesOf (gw_FJ F) S a1)) cw_SM_bytesOf cv_SM_bytesOf tw_172 rfl (by decide) (by decide) (by decide) cE_SM rfl rfl rfl rfl (Nat.le_of_ble_eq_true rfl) d_SM_put_2 ?_
    refine gw_to (S' := S) (st' := [.ref (ad 7)]) rfl rfl ?_
    refine gw_astore (pc := 5) (lv' := [(4, .ref (ad 7)), (0, .ref (ad 0)), (1, .int a1), (2, .int a2), (3, .int a3)]) F d_SM_put_5 (by decide) rfl ?_
    refine gw_aload (pc := 7) F 0 d_SM_put_7 rfl ?_
    refine gw_ifnull (pc := 9) F d_SM_put_9 ?_
    refine gw_iload_n (pc := 12) F 3 d_SM_put_12 rfl rfl ?_
    refine gw_if_ltS (pc := 13) (tgt := 23) F d_SM_put_13 (by decide) (fun h13 => ?_) (fun h13 => ?_)
    · refine gw_iconst (pc := 23) (v := (0 : Int32)) F d_SM_put_23 (by decide) ?_
      exact gw_zret (pc := 24) F d_SM_put_24 rfl
    · refine gw_iload_n (pc := 16) F 3 d_SM_put_16 rfl rfl ?_
      refine gw_sipush (pc := 17) (v := (1020 : Int32)) F d_SM_put_17 (by decide) ?_
      refine gw_icmp_leS (pc := 20) (tgt := 25) F d_SM_put_20 (by decide) (fun h20 => ?_) (fun h20 => ?_)
      · refine gw_iconst (pc := 25) (v := (0 : Int32)) F d_SM_put_25 (by decide) ?_
        refine gw_istore (pc := 26) (lv' := [(5, .int (0 : Int32)), (4, .ref (ad 7)), (0, .ref (ad 0)), (1, .int a1), (2, .int a2), (3, .int a3)]) F d_SM_put_26 (by decide) rfl ?_
        refine gw_lvs (lv' := [(2, .int a2), (3, .int a3), (4, .ref (ad 7)), (5, .int (0 : Int32))]) [4, 5, 1, 0] rfl ?_
        exact l_SM_put_28  F (Or.inr rfl) a2 a3  ((((4 : Int32) : Int32).toInt - ((0 : Int32) : Int32).toInt).toNat + 1) S (0 : Int32) (Nat.succ_pos _) (gw_ent _) (by decide)
      · refine gw_iconst (pc := 23) (v := (0 : Int32)) F d_SM_put_23 (by decide) ?_
        exact gw_zret (pc := 24) F d_SM_put_24 rfl
  refine gw_cV (pc := 2) (As := [.int a1]) (rest := []) F (gw_Me (cb_bytesOfN (S := S) hA hB) (c_SM_bytesOf (gw_FJ F) S a1)) cw_SM_bytesOf cv_SM_bytesOf tw_172 rfl (by decide) (by decide) (by decide) cE_SM rfl rfl rfl rfl (Nat.le_of_ble_eq_true rfl) d_SM_put_2 ?_
  refine gw_to (S' := S) (st' := [.null]) rfl rfl ?_
  refine gw_astoreN (pc := 5) (lv' := [(4, .null), (0, .ref (ad 0)), (1, .int a1), (2, .int a2), (3, .int a3)]) F d_SM_put_5 (by decide) rfl ?_
  refine gw_aloadN (pc := 7) F 0 d_SM_put_7 rfl ?_
  refine gw_ifnullN (pc := 9) (tgt := 23) F d_SM_put_9 (by decide) ?_
  refine gw_iconst (pc := 23) (v := (0 : Int32)) F d_SM_put_23 (by decide) ?_
  exact gw_zret (pc := 24) F d_SM_put_24 rfl
set_option maxHeartbeats 4000000 in
set_option maxRecDepth 100000 in
theorem pl_ok_SM_put_28  {b : Nat} (hb : b = 2 ∨ b = 7) (a2 : Int32) (a3 : Int32) : ∀ (n : Nat) (S : gw_S) (x5 : Int32), 0 < n → ((4 : Int32) : Int32).toInt - x5.toInt < (n : Int) → 0 ≤ x5.toInt → cOK S → cOK (fl_SM_put_28 b a2 a3 n S x5).2 := by
  intro n
  induction n with
  | zero => intro S x5 hn hf h0 hf_ok; exact absurd hn (Nat.lt_irrefl 0)
  | succ n ih =>
    intro S x5 hn hf h0 hf_ok
    refine po_if (Φ := fun p : Int32 × gw_S => cOK p.2) (fun h31 => ?_) (fun h31 => ?_)
    · exact hf_ok
    · refine po_b (Φ := fun p : Int32 × gw_S => cOK p.2) (P := fun _ U => cOK U) (po_ok_Bytes_write hb S (a2 + x5) (a3 >>> (((24 : Int32) - ((8 : Int32) * x5)) &&& 31)) hf_ok) (fun _ S50 p50 => ?_)
      exact ih S50 (x5 + (1 : Int32)) (gw_stp h31 hf).1 (gw_stp h31 hf).2.1 (gw_stp0 h31 h0) p50
set_option maxHeartbeats 4000000 in
set_option maxRecDepth 100000 in
theorem po_ok_SM_put   (S : gw_S) (a1 : Int32) (a2 : Int32) (a3 : Int32) (hf_ok : cOK S) : cOK (f_SM_put S a1 a2 a3).2 := by
  unfold f_SM_put
  refine po_if (Φ := fun p : Int32 × gw_S => cOK p.2) (fun hA => ?_) (fun hA => ?_)
  · refine po_if (Φ := fun p : Int32 × gw_S => cOK p.2) (fun h13 => ?_) (fun h13 => ?_)
    · exact hf_ok
    · refine po_if (Φ := fun p : Int32 × gw_S => cOK p.2) (fun h20 => ?_) (fun h20 => ?_)
      · exact pl_ok_SM_put_28 (Or.inl rfl) a2 a3  ((((4 : Int32) : Int32).toInt - ((0 : Int32) : Int32).toInt).toNat + 1) S (0 : Int32) (Nat.succ_pos _) (gw_ent _) (by decide) hf_ok
      · exact hf_ok
  refine po_if (Φ := fun p : Int32 × gw_S => cOK p.2) (fun hB => ?_) (fun hB => ?_)
  · refine po_if (Φ := fun p : Int32 × gw_S => cOK p.2) (fun h13 => ?_) (fun h13 => ?_)
    · exact hf_ok
    · refine po_if (Φ := fun p : Int32 × gw_S => cOK p.2) (fun h20 => ?_) (fun h20 => ?_)
      · exact pl_ok_SM_put_28 (Or.inr rfl) a2 a3  ((((4 : Int32) : Int32).toInt - ((0 : Int32) : Int32).toInt).toNat + 1) S (0 : Int32) (Nat.succ_pos _) (gw_ent _) (by decide) hf_ok
      · exact hf_ok
  exact hf_ok
def f_SM_byteAt   (S : gw_S) (a1 : Int32) (a2 : Int32) : Int32 × gw_S := (if a1 = 0 then (if a2 < 0 then (((-1 : Int32), S)) else (if a2 ≤ (1023 : Int32) then (gw_b (f_Bytes_read 2 S a2) fun r25 S25 => (r25, S25)) else (((-1 : Int32), S)))) else (if a1 = 1 then (if a2 < 0 then (((-1 : Int32), S)) else (if a2 ≤ (1023 : Int32) then (gw_b (f_Bytes_read 7 S a2) fun r25 S25 => (r25, S25)) else (((-1 : Int32), S)))) else (((-1 : Int32), S))))
set_option maxHeartbeats 4000000 in
set_option maxRecDepth 100000 in
theorem c_SM_byteAt (hJ : gw_J 46 ad)   (S : gw_S) (a1 : Int32) (a2 : Int32) : gw_M l y_SM_byteAt prog_1_method_3_code 4 (some .int) gTs (gw_rm 1) D gCl (gTys cI cB cC cZ) 46 ad (cE ad cI cB cC) gw_rI [.ref (ad 0), .int a1, .int a2] S (f_SM_byteAt S a1 a2) := by
  refine gw_start gTs_ok (plainFor_of_name (by decide)) hJ (Nat.le_of_ble_eq_true rfl) (fun X A F => ?_)
  refine gw_lve (lv' := [(0, .ref (ad 0)), (1, .int a1), (2, .int a2)]) rfl ?_
  unfold f_SM_byteAt
  refine gw_aload_n (pc := 0) F 0 d_SM_byteAt_0 rfl rfl ?_
  refine gw_iload_n (pc := 1) F 1 d_SM_byteAt_1 rfl rfl ?_
  refine gw_spl (fun hA => ?_) (fun hA => ?_)
  · refine gw_cV (pc := 2) (As := [.int a1]) (rest := []) F (gw_Me (cb_bytesOf0 (S := S) hA) (c_SM_bytesOf (gw_FJ F) S a1)) cw_SM_bytesOf cv_SM_bytesOf tw_172 rfl (by decide) (by decide) (by decide) cE_SM rfl rfl rfl rfl (Nat.le_of_ble_eq_true rfl) d_SM_byteAt_2 ?_
    refine gw_to (S' := S) (st' := [.ref (ad 2)]) rfl rfl ?_
    refine gw_astore_n (pc := 5) (lv' := [(3, .ref (ad 2)), (0, .ref (ad 0)), (1, .int a1), (2, .int a2)]) F d_SM_byteAt_5 rfl (by decide) rfl ?_
    refine gw_aload_n (pc := 6) F 0 d_SM_byteAt_6 rfl rfl ?_
    refine gw_ifnull (pc := 7) F d_SM_byteAt_7 ?_
    refine gw_iload_n (pc := 10) F 3 d_SM_byteAt_10 rfl rfl ?_
    refine gw_if_ltS (pc := 11) (tgt := 21) F d_SM_byteAt_11 (by decide) (fun h11 => ?_) (fun h11 => ?_)
    · refine gw_iconst (pc := 21) (v := (-1 : Int32)) F d_SM_byteAt_21 (by decide) ?_
      exact gw_iret (pc := 22) F d_SM_byteAt_22
    · refine gw_iload_n (pc := 14) F 3 d_SM_byteAt_14 rfl rfl ?_
      refine gw_sipush (pc := 15) (v := (1023 : Int32)) F d_SM_byteAt_15 (by decide) ?_
      refine gw_icmp_leS (pc := 18) (tgt := 23) F d_SM_byteAt_18 (by decide) (fun h18 => ?_) (fun h18 => ?_)
      · refine gw_aload_n (pc := 23) F 0 d_SM_byteAt_23 rfl rfl ?_
        refine gw_iload_n (pc := 24) F 3 d_SM_byteAt_24 rfl rfl ?_
        refine gw_cV (pc := 25) (As := [.int a2]) (rest := []) F (c_Bytes_read (gw_FJ F) (Or.inl rfl) S a2) cw_Bytes_read cv_Bytes_read tw_184 rfl (by decide) (by decide) (chi_Bytes (Or.inl rfl)) (cE_Bytes (Or.inl rfl)) rfl rfl rfl rfl (Nat.le_of_ble_eq_true rfl) d_SM_byteAt_25 (gw_bI (P := fun r U => True) trivial (fun r25 S25 p25 => ?_))
        exact gw_iret (pc := 28) F d_SM_byteAt_28
      · refine gw_iconst (pc := 21) (v := (-1 : Int32)) F d_SM_byteAt_21 (by decide) ?_
        exact gw_iret (pc := 22) F d_SM_byteAt_22
  refine gw_spl (fun hB => ?_) (fun hB => ?_)
  · refine gw_cV (pc := 2) (As := [.int a1]) (rest := []) F (gw_Me (cb_bytesOf1 (S := S) hA hB) (c_SM_bytesOf (gw_FJ F) S a1)) cw_SM_bytesOf cv_SM_bytesOf tw_172 rfl (by decide) (by decide) (by decide) cE_SM rfl rfl rfl rfl (Nat.le_of_ble_eq_true rfl) d_SM_byteAt_2 ?_
    refine gw_to (S' := S) (st' := [.ref (ad 7)]) rfl rfl ?_
    refine gw_astore_n (pc := 5) (lv' := [(3, .ref (ad 7)), (0, .ref (ad 0)), (1, .int a1), (2, .int a2)]) F d_SM_byteAt_5 rfl (by decide) rfl ?_
    refine gw_aload_n (pc := 6) F 0 d_SM_byteAt_6 rfl rfl ?_
    refine gw_ifnull (pc := 7) F d_SM_byteAt_7 ?_
    refine gw_iload_n (pc := 10) F 3 d_SM_byteAt_10 rfl rfl ?_
    refine gw_if_ltS (pc := 11) (tgt := 21) F d_SM_byteAt_11 (by decide) (fun h11 => ?_) (fun h11 => ?_)
    · refine gw_iconst (pc := 21) (v := (-1 : Int32)) F d_SM_byteAt_21 (by decide) ?_
      exact gw_iret (pc := 22) F d_SM_byteAt_22
    · refine gw_iload_n (pc := 14) F 3 d_SM_byteAt_14 rfl rfl ?_
      refine gw_sipush (pc := 15) (v := (1023 : Int32)) F d_SM_byteAt_15 (by decide) ?_
      refine gw_icmp_leS (pc := 18) (tgt := 23) F d_SM_byteAt_18 (by decide) (fun h18 => ?_) (fun h18 => ?_)
      · refine gw_aload_n (pc := 23) F 0 d_SM_byteAt_23 rfl rfl ?_
        refine gw_iload_n (pc := 24) F 3 d_SM_byteAt_24 rfl rfl ?_
        refine gw_cV (pc := 25) (As := [.int a2]) (rest := []) F (c_Bytes_read (gw_FJ F) (Or.inr rfl) S a2) cw_Bytes_read cv_Bytes_read tw_184 rfl (by decide) (by decide) (chi_Bytes (Or.inr rfl)) (cE_Bytes (Or.inr rfl)) rfl rfl rfl rfl (Nat.le_of_ble_eq_true rfl) d_SM_byteAt_25 (gw_bI (P := fun r U => True) trivial (fun r25 S25 p25 => ?_))
        exact gw_iret (pc := 28) F d_SM_byteAt_28
      · refine gw_iconst (pc := 21) (v := (-1 : Int32)) F d_SM_byteAt_21 (by decide) ?_
        exact gw_iret (pc := 22) F d_SM_byteAt_22
  refine gw_cV (pc := 2) (As := [.int a1]) (rest := []) F (gw_Me (cb_bytesOfN (S := S) hA hB) (c_SM_bytesOf (gw_FJ F) S a1)) cw_SM_bytesOf cv_SM_bytesOf tw_172 rfl (by decide) (by decide) (by decide) cE_SM rfl rfl rfl rfl (Nat.le_of_ble_eq_true rfl) d_SM_byteAt_2 ?_
  refine gw_to (S' := S) (st' := [.null]) rfl rfl ?_
  refine gw_astore_nN (pc := 5) (lv' := [(3, .null), (0, .ref (ad 0)), (1, .int a1), (2, .int a2)]) F d_SM_byteAt_5 rfl (by decide) rfl ?_
  refine gw_aload_nN (pc := 6) F 0 d_SM_byteAt_6 rfl rfl ?_
  refine gw_ifnullN (pc := 7) (tgt := 21) F d_SM_byteAt_7 (by decide) ?_
  refine gw_iconst (pc := 21) (v := (-1 : Int32)) F d_SM_byteAt_21 (by decide) ?_
  exact gw_iret (pc := 22) F d_SM_byteAt_22
set_option maxHeartbeats 4000000 in
set_option maxRecDepth 100000 in
theorem po_ok_SM_byteAt   (S : gw_S) (a1 : Int32) (a2 : Int32) (hf_ok : cOK S) : cOK (f_SM_byteAt S a1 a2).2 := by
  unfold f_SM_byteAt
  refine po_if (Φ := fun p : Int32 × gw_S => cOK p.2) (fun hA => ?_) (fun hA => ?_)
  · refine po_if (Φ := fun p : Int32 × gw_S => cOK p.2) (fun h11 => ?_) (fun h11 => ?_)
    · exact hf_ok
    · refine po_if (Φ := fun p : Int32 × gw_S => cOK p.2) (fun h18 => ?_) (fun h18 => ?_)
      · refine po_b (Φ := fun p : Int32 × gw_S => cOK p.2) (P := fun r U => cOK U ∧ vp_in r 256) ⟨(po_ok_Bytes_read (Or.inl rfl) S a2 hf_ok), (cb_read (Or.inl rfl) S a2 hf_ok)⟩ (fun r25 S25 p25 => ?_)
        exact p25.1
      · exact hf_ok
  refine po_if (Φ := fun p : Int32 × gw_S => cOK p.2) (fun hB => ?_) (fun hB => ?_)
  · refine po_if (Φ := fun p : Int32 × gw_S => cOK p.2) (fun h11 => ?_) (fun h11 => ?_)
    · exact hf_ok
    · refine po_if (Φ := fun p : Int32 × gw_S => cOK p.2) (fun h18 => ?_) (fun h18 => ?_)
      · refine po_b (Φ := fun p : Int32 × gw_S => cOK p.2) (P := fun r U => cOK U ∧ vp_in r 256) ⟨(po_ok_Bytes_read (Or.inr rfl) S a2 hf_ok), (cb_read (Or.inr rfl) S a2 hf_ok)⟩ (fun r25 S25 p25 => ?_)
        exact p25.1
      · exact hf_ok
  exact hf_ok
def f_SM_pixel   (S : gw_S) (a1 : Int32) (a2 : Int32) (a3 : Int32) : Int32 × gw_S := (gw_b (f_SM_isBelow S a1 (4 : Int32)) fun r2 S2 => if r2 = 0 then (((-1 : Int32), S2)) else (gw_b (f_SM_isBelow S2 a2 (64 : Int32)) fun r11 S11 => if r11 = 0 then (((-1 : Int32), S11)) else (gw_b (f_SM_isBelow S11 a3 (40 : Int32)) fun r20 S20 => if r20 = 0 then (((-1 : Int32), S20)) else (gw_b (f_Pages_colourAt S20 a1 a2 a3) fun r41 S41 => (r41, S41)))))
set_option maxHeartbeats 4000000 in
set_option maxRecDepth 100000 in
theorem c_SM_pixel (hJ : gw_J 46 ad)   (S : gw_S) (a1 : Int32) (a2 : Int32) (a3 : Int32) : gw_M l y_SM_pixel prog_1_method_9_code 4 (some .int) gTs (gw_rm 1) D gCl (gTys cI cB cC cZ) 46 ad (cE ad cI cB cC) gw_rI [.ref (ad 0), .int a1, .int a2, .int a3] S (f_SM_pixel S a1 a2 a3) := by
  refine gw_start gTs_ok (plainFor_of_name (by decide)) hJ (Nat.le_of_ble_eq_true rfl) (fun X A F => ?_)
  refine gw_lve (lv' := [(0, .ref (ad 0)), (1, .int a1), (2, .int a2), (3, .int a3)]) rfl ?_
  unfold f_SM_pixel
  refine gw_iload_n (pc := 0) F 1 d_SM_pixel_0 rfl rfl ?_
  refine gw_iconst (pc := 1) (v := (4 : Int32)) F d_SM_pixel_1 (by decide) ?_
  refine gw_cS (pc := 2) (As := [.int a1, .int (4 : Int32)]) (rest := []) F (c_SM_isBelow (gw_FJ F) S a1 (4 : Int32)) cw_SM_isBelow cv_SM_isBelow tw_192 rfl (by decide) (by decide) rfl rfl (Nat.le_of_ble_eq_true rfl) d_SM_pixel_2 (gw_bI (P := fun r U => (¬ r = 0 → vp_in a1 4)) (cb_isBelow4 S a1) (fun r2 S2 p2 => ?_))
  refine gw_if_eqS (pc := 5) (tgt := 26) F d_SM_pixel_5 (by decide) (fun h5 => ?_) (fun h5 => ?_)
  · refine gw_iconst (pc := 26) (v := (-1 : Int32)) F d_SM_pixel_26 (by decide) ?_
    exact gw_iret (pc := 27) F d_SM_pixel_27
  · refine gw_iload_n (pc := 8) F 2 d_SM_pixel_8 rfl rfl ?_
    refine gw_bipush (pc := 9) (v := (64 : Int32)) F d_SM_pixel_9 (by decide) ?_
    refine gw_cS (pc := 11) (As := [.int a2, .int (64 : Int32)]) (rest := []) F (c_SM_isBelow (gw_FJ F) S2 a2 (64 : Int32)) cw_SM_isBelow cv_SM_isBelow tw_192 rfl (by decide) (by decide) rfl rfl (Nat.le_of_ble_eq_true rfl) d_SM_pixel_11 (gw_bI (P := fun r U => (¬ r = 0 → vp_in a2 64)) (cb_isBelow64 S2 a2) (fun r11 S11 p11 => ?_))
    refine gw_if_eqS (pc := 14) (tgt := 26) F d_SM_pixel_14 (by decide) (fun h14 => ?_) (fun h14 => ?_)
    · refine gw_iconst (pc := 26) (v := (-1 : Int32)) F d_SM_pixel_26 (by decide) ?_
      exact gw_iret (pc := 27) F d_SM_pixel_27
    · refine gw_iload_n (pc := 17) F 3 d_SM_pixel_17 rfl rfl ?_
      refine gw_bipush (pc := 18) (v := (40 : Int32)) F d_SM_pixel_18 (by decide) ?_
      refine gw_cS (pc := 20) (As := [.int a3, .int (40 : Int32)]) (rest := []) F (c_SM_isBelow (gw_FJ F) S11 a3 (40 : Int32)) cw_SM_isBelow cv_SM_isBelow tw_192 rfl (by decide) (by decide) rfl rfl (Nat.le_of_ble_eq_true rfl) d_SM_pixel_20 (gw_bI (P := fun r U => (¬ r = 0 → vp_in a3 40)) (cb_isBelow40 S11 a3) (fun r20 S20 p20 => ?_))
      refine gw_if_neS (pc := 23) (tgt := 28) F d_SM_pixel_23 (by decide) (fun h23 => ?_) (fun h23 => ?_)
      · refine gw_aload_n (pc := 28) F 0 d_SM_pixel_28 rfl rfl ?_
        refine cg_SM_player (pc := 29) F tw_158 d_SM_pixel_29 ?_
        refine cgN_Player_painter (pc := 32) F tw_142 d_SM_pixel_32 ?_
        refine cgN_Painter_pages (pc := 35) F tw_71 d_SM_pixel_35 ?_
        refine gw_iload_n (pc := 38) F 1 d_SM_pixel_38 rfl rfl ?_
        refine gw_iload_n (pc := 39) F 2 d_SM_pixel_39 rfl rfl ?_
        refine gw_iload_n (pc := 40) F 3 d_SM_pixel_40 rfl rfl ?_
        refine gw_cV (pc := 41) (As := [.int a1, .int a2, .int a3]) (rest := []) F (c_Pages_colourAt (gw_FJ F) S20 a1 a2 a3 (p2 h5) (p11 h14) (p20 h23)) cw_Pages_colourAt cv_Pages_colourAt tw_393 rfl (by decide) (by decide) (by decide) cE_Pages rfl rfl rfl rfl (Nat.le_of_ble_eq_true rfl) d_SM_pixel_41 (gw_bI (P := fun r U => True) trivial (fun r41 S41 p41 => ?_))
        exact gw_iret (pc := 44) F d_SM_pixel_44
      · refine gw_iconst (pc := 26) (v := (-1 : Int32)) F d_SM_pixel_26 (by decide) ?_
        exact gw_iret (pc := 27) F d_SM_pixel_27
set_option maxHeartbeats 4000000 in
set_option maxRecDepth 100000 in
theorem po_ok_SM_pixel   (S : gw_S) (a1 : Int32) (a2 : Int32) (a3 : Int32) (hf_ok : cOK S) : cOK (f_SM_pixel S a1 a2 a3).2 := by
  unfold f_SM_pixel
  refine po_b (Φ := fun p : Int32 × gw_S => cOK p.2) (P := fun r U => cOK U ∧ (¬ r = 0 → vp_in a1 4)) ⟨(po_ok_SM_isBelow S a1 (4 : Int32) hf_ok), (cb_isBelow4 S a1)⟩ (fun r2 S2 p2 => ?_)
  refine po_if (Φ := fun p : Int32 × gw_S => cOK p.2) (fun h5 => ?_) (fun h5 => ?_)
  · exact p2.1
  · refine po_b (Φ := fun p : Int32 × gw_S => cOK p.2) (P := fun r U => cOK U ∧ (¬ r = 0 → vp_in a2 64)) ⟨(po_ok_SM_isBelow S2 a2 (64 : Int32) p2.1), (cb_isBelow64 S2 a2)⟩ (fun r11 S11 p11 => ?_)
    refine po_if (Φ := fun p : Int32 × gw_S => cOK p.2) (fun h14 => ?_) (fun h14 => ?_)
    · exact p11.1
    · refine po_b (Φ := fun p : Int32 × gw_S => cOK p.2) (P := fun r U => cOK U ∧ (¬ r = 0 → vp_in a3 40)) ⟨(po_ok_SM_isBelow S11 a3 (40 : Int32) p11.1), (cb_isBelow40 S11 a3)⟩ (fun r20 S20 p20 => ?_)
      refine po_if (Φ := fun p : Int32 × gw_S => cOK p.2) (fun h23 => ?_) (fun h23 => ?_)
      · exact p20.1
      · refine po_b (Φ := fun p : Int32 × gw_S => cOK p.2) (P := fun r U => cOK U) (po_ok_Pages_colourAt S20 a1 a2 a3 p20.1 (p2.2 h5) (p11.2 h14) (p20.2 h23)) (fun r41 S41 p41 => ?_)
        exact p41
def f_Math_fdI   (S : gw_S) (a1 : Int32) (a2 : Int32) : Int32 × gw_S := (gw_n (a1 / a2) fun v3 => if 0 ≤ (a1 ^^^ a2) then ((v3, S)) else (if (v3 * a2) = a1 then ((v3, S)) else (((v3 - (1 : Int32)), S))))
set_option maxHeartbeats 4000000 in
set_option maxRecDepth 100000 in
theorem c_Math_fdI (hJ : gw_J 46 ad)   (S : gw_S) (a1 : Int32) (a2 : Int32) (hz : ¬ a2 = 0) : gw_M l y_Math_fdI prog_9_method_47_code 3 (some .int) gTs (gw_rm 0) D gCl (gTys cI cB cC cZ) 46 ad (cE ad cI cB cC) gw_rI [.int a1, .int a2] S (f_Math_fdI S a1 a2) := by
  refine gw_start gTs_ok (by decide +kernel) hJ (Nat.le_of_ble_eq_true rfl) (fun X A F => ?_)
  refine gw_lve (lv' := [(0, .int a1), (1, .int a2)]) rfl ?_
  unfold f_Math_fdI
  refine gw_iload_n (pc := 0) F 0 d_Math_fdI_0 rfl rfl ?_
  refine gw_iload_n (pc := 1) F 1 d_Math_fdI_1 rfl rfl ?_
  refine gw_idiv (pc := 2) F d_Math_fdI_2 hz ?_
  refine gw_nI (fun v3 e3 => ?_)
  refine gw_istore_n (pc := 3) (lv' := [(2, .int v3), (0, .int a1), (1, .int a2)]) F d_Math_fdI_3 rfl (by decide) rfl ?_
  refine gw_iload_n (pc := 4) F 1 d_Math_fdI_4 rfl rfl ?_
  refine gw_iload_n (pc := 5) F 2 d_Math_fdI_5 rfl rfl ?_
  refine gw_ixor (pc := 6) F d_Math_fdI_6 ?_
  refine gw_if_geS (pc := 7) (tgt := 21) F d_Math_fdI_7 (by decide) (fun h7 => ?_) (fun h7 => ?_)
  · refine gw_iload_n (pc := 21) F 0 d_Math_fdI_21 rfl rfl ?_
    exact gw_iret (pc := 22) F d_Math_fdI_22
  · refine gw_iload_n (pc := 10) F 0 d_Math_fdI_10 rfl rfl ?_
    refine gw_iload_n (pc := 11) F 2 d_Math_fdI_11 rfl rfl ?_
    refine gw_imul (pc := 12) F d_Math_fdI_12 ?_
    refine gw_iload_n (pc := 13) F 1 d_Math_fdI_13 rfl rfl ?_
    refine gw_icmp_eqS (pc := 14) (tgt := 21) F d_Math_fdI_14 (by decide) (fun h14 => ?_) (fun h14 => ?_)
    · refine gw_iload_n (pc := 21) F 0 d_Math_fdI_21 rfl rfl ?_
      exact gw_iret (pc := 22) F d_Math_fdI_22
    · refine gw_iload_n (pc := 17) F 0 d_Math_fdI_17 rfl rfl ?_
      refine gw_iconst (pc := 18) (v := (1 : Int32)) F d_Math_fdI_18 (by decide) ?_
      refine gw_isub (pc := 19) F d_Math_fdI_19 ?_
      exact gw_iret (pc := 20) F d_Math_fdI_20
set_option maxHeartbeats 4000000 in
set_option maxRecDepth 100000 in
theorem po_ok_Math_fdI   (S : gw_S) (a1 : Int32) (a2 : Int32) (hf_ok : cOK S) (hz : ¬ a2 = 0) : cOK (f_Math_fdI S a1 a2).2 := by
  unfold f_Math_fdI
  refine po_n (Φ := fun p : Int32 × gw_S => cOK p.2) (fun v3 e3 => ?_)
  refine po_if (Φ := fun p : Int32 × gw_S => cOK p.2) (fun h7 => ?_) (fun h7 => ?_)
  · exact hf_ok
  · refine po_if (Φ := fun p : Int32 × gw_S => cOK p.2) (fun h14 => ?_) (fun h14 => ?_)
    · exact hf_ok
    · exact hf_ok
def f_Math_fdJ   (S : gw_S) (a1 : Int64) (a2 : Int64) : Int64 × gw_S := (gw_n (a1 / a2) fun v3 => if 0 ≤ (lg_cmp (a1 ^^^ a2) (0 : Int64)) then ((v3, S)) else (if (lg_cmp (v3 * a2) a1) = 0 then ((v3, S)) else (((v3 - (1 : Int64)), S))))
set_option maxHeartbeats 4000000 in
set_option maxRecDepth 100000 in
theorem c_Math_fdJ (hJ : gw_J 46 ad)   (S : gw_S) (a1 : Int64) (a2 : Int64) (hz : ¬ a2 = 0) : gw_M l y_Math_fdJ prog_9_method_49_code 6 (some .long) gTs (gw_rm 0) D gCl (gTys cI cB cC cZ) 46 ad (cE ad cI cB cC) gw_rJ [.long a1, .long a2] S (f_Math_fdJ S a1 a2) := by
  refine gw_start gTs_ok (by decide +kernel) hJ (Nat.le_of_ble_eq_true rfl) (fun X A F => ?_)
  refine gw_lve (lv' := [(0, .long a1), (2, .long a2)]) rfl ?_
  unfold f_Math_fdJ
  refine gw_lload_n (pc := 0) F 0 d_Math_fdJ_0 rfl rfl ?_
  refine gw_lload_n (pc := 1) F 1 d_Math_fdJ_1 rfl rfl ?_
  refine gw_ldiv (pc := 2) F d_Math_fdJ_2 hz ?_
  refine gw_nJ (fun v3 e3 => ?_)
  refine gw_lstore (pc := 3) (lv' := [(4, .long v3), (0, .long a1), (2, .long a2)]) F d_Math_fdJ_3 (by decide) rfl ?_
  refine gw_lload_n (pc := 5) F 1 d_Math_fdJ_5 rfl rfl ?_
  refine gw_lload_n (pc := 6) F 2 d_Math_fdJ_6 rfl rfl ?_
  refine gw_lxor (pc := 7) F d_Math_fdJ_7 ?_
  refine gw_lconst (pc := 8) (v := (0 : Int64)) F d_Math_fdJ_8 (by decide) ?_
  refine gw_lcmp (pc := 9) F d_Math_fdJ_9 ?_
  refine gw_if_geS (pc := 10) (tgt := 27) F d_Math_fdJ_10 (by decide) (fun h10 => ?_) (fun h10 => ?_)
  · refine gw_lload (pc := 27) F 0 d_Math_fdJ_27 rfl ?_
    exact gw_lret (pc := 29) F d_Math_fdJ_29
  · refine gw_lload (pc := 13) F 0 d_Math_fdJ_13 rfl ?_
    refine gw_lload_n (pc := 15) F 2 d_Math_fdJ_15 rfl rfl ?_
    refine gw_lmul (pc := 16) F d_Math_fdJ_16 ?_
    refine gw_lload_n (pc := 17) F 1 d_Math_fdJ_17 rfl rfl ?_
    refine gw_lcmp (pc := 18) F d_Math_fdJ_18 ?_
    refine gw_if_eqS (pc := 19) (tgt := 27) F d_Math_fdJ_19 (by decide) (fun h19 => ?_) (fun h19 => ?_)
    · refine gw_lload (pc := 27) F 0 d_Math_fdJ_27 rfl ?_
      exact gw_lret (pc := 29) F d_Math_fdJ_29
    · refine gw_lload (pc := 22) F 0 d_Math_fdJ_22 rfl ?_
      refine gw_lconst (pc := 24) (v := (1 : Int64)) F d_Math_fdJ_24 (by decide) ?_
      refine gw_lsub (pc := 25) F d_Math_fdJ_25 ?_
      exact gw_lret (pc := 26) F d_Math_fdJ_26
set_option maxHeartbeats 4000000 in
set_option maxRecDepth 100000 in
theorem po_ok_Math_fdJ   (S : gw_S) (a1 : Int64) (a2 : Int64) (hf_ok : cOK S) (hz : ¬ a2 = 0) : cOK (f_Math_fdJ S a1 a2).2 := by
  unfold f_Math_fdJ
  refine po_n (Φ := fun p : Int64 × gw_S => cOK p.2) (fun v3 e3 => ?_)
  refine po_if (Φ := fun p : Int64 × gw_S => cOK p.2) (fun h10 => ?_) (fun h10 => ?_)
  · exact hf_ok
  · refine po_if (Φ := fun p : Int64 × gw_S => cOK p.2) (fun h19 => ?_) (fun h19 => ?_)
    · exact hf_ok
    · exact hf_ok
def f_Math_max   (S : gw_S) (a1 : Int32) (a2 : Int32) : Int32 × gw_S := (if a1 < a2 then ((a2, S)) else ((a1, S)))
set_option maxHeartbeats 4000000 in
set_option maxRecDepth 100000 in
theorem c_Math_max (hJ : gw_J 46 ad)   (S : gw_S) (a1 : Int32) (a2 : Int32) : gw_M l y_Math_max prog_9_method_65_code 2 (some .int) gTs (gw_rm 0) D gCl (gTys cI cB cC cZ) 46 ad (cE ad cI cB cC) gw_rI [.int a1, .int a2] S (f_Math_max S a1 a2) := by
  refine gw_start gTs_ok (by decide +kernel) hJ (Nat.le_of_ble_eq_true rfl) (fun X A F => ?_)
  refine gw_lve (lv' := [(0, .int a1), (1, .int a2)]) rfl ?_
  unfold f_Math_max
  refine gw_iload_n (pc := 0) F 0 d_Math_max_0 rfl rfl ?_
  refine gw_iload_n (pc := 1) F 1 d_Math_max_1 rfl rfl ?_
  refine gw_icmp_ltS (pc := 2) (tgt := 9) F d_Math_max_2 (by decide) (fun h2 => ?_) (fun h2 => ?_)
  · refine gw_iload_n (pc := 9) F 1 d_Math_max_9 rfl rfl ?_
    exact gw_iret (pc := 10) F d_Math_max_10
  · refine gw_iload_n (pc := 5) F 0 d_Math_max_5 rfl rfl ?_
    refine gw_goto (pc := 6) (tgt := 10) F d_Math_max_6 (by decide) ?_
    exact gw_iret (pc := 10) F d_Math_max_10
theorem cb_max {S : gw_S} {a b : Int32} : a.toInt ≤ (f_Math_max S a b).1.toInt ∧ b.toInt ≤ (f_Math_max S a b).1.toInt := by
  unfold f_Math_max
  refine po_if (Φ := fun p : Int32 × gw_S => a.toInt ≤ p.1.toInt ∧ b.toInt ≤ p.1.toInt) (fun h => ?_) (fun h => ?_)
  · rw [Int32.lt_iff_toInt_lt] at h; dsimp only; omega
  · rw [Int32.lt_iff_toInt_lt] at h; dsimp only; omega
theorem cb_max0 (S : gw_S) (a : Int32) : 0 ≤ (f_Math_max S a (0 : Int32)).1.toInt := (cb_max (S := S) (a := a) (b := 0)).2
theorem cb_first (S : gw_S) (t : Int32) (h : cYb t) : 0 ≤ t.toInt + (f_Math_max S (0 : Int32) (-t)).1.toInt := by
  have h1 := (cb_max (S := S) (a := 0) (b := -t)).2
  have h2 : (-t).toInt = -t.toInt := by
    unfold cYb at h
    rw [Int32.toInt_neg]
    exact Int.bmod_eq_of_le (by omega) (by omega)
  omega
set_option maxHeartbeats 4000000 in
set_option maxRecDepth 100000 in
theorem po_ok_Math_max   (S : gw_S) (a1 : Int32) (a2 : Int32) (hf_ok : cOK S) : cOK (f_Math_max S a1 a2).2 := by
  unfold f_Math_max
  refine po_if (Φ := fun p : Int32 × gw_S => cOK p.2) (fun h2 => ?_) (fun h2 => ?_)
  · exact hf_ok
  · exact hf_ok
def f_Math_min   (S : gw_S) (a1 : Int32) (a2 : Int32) : Int32 × gw_S := (if a2 < a1 then ((a2, S)) else ((a1, S)))
set_option maxHeartbeats 4000000 in
set_option maxRecDepth 100000 in
theorem c_Math_min (hJ : gw_J 46 ad)   (S : gw_S) (a1 : Int32) (a2 : Int32) : gw_M l y_Math_min prog_9_method_69_code 2 (some .int) gTs (gw_rm 0) D gCl (gTys cI cB cC cZ) 46 ad (cE ad cI cB cC) gw_rI [.int a1, .int a2] S (f_Math_min S a1 a2) := by
  refine gw_start gTs_ok (by decide +kernel) hJ (Nat.le_of_ble_eq_true rfl) (fun X A F => ?_)
  refine gw_lve (lv' := [(0, .int a1), (1, .int a2)]) rfl ?_
  unfold f_Math_min
  refine gw_iload_n (pc := 0) F 0 d_Math_min_0 rfl rfl ?_
  refine gw_iload_n (pc := 1) F 1 d_Math_min_1 rfl rfl ?_
  refine gw_icmp_gtS (pc := 2) (tgt := 9) F d_Math_min_2 (by decide) (fun h2 => ?_) (fun h2 => ?_)
  · refine gw_iload_n (pc := 9) F 1 d_Math_min_9 rfl rfl ?_
    exact gw_iret (pc := 10) F d_Math_min_10
  · refine gw_iload_n (pc := 5) F 0 d_Math_min_5 rfl rfl ?_
    refine gw_goto (pc := 6) (tgt := 10) F d_Math_min_6 (by decide) ?_
    exact gw_iret (pc := 10) F d_Math_min_10
theorem cb_min {S : gw_S} {a b : Int32} : (f_Math_min S a b).1.toInt ≤ a.toInt ∧ (f_Math_min S a b).1.toInt ≤ b.toInt := by
  unfold f_Math_min
  refine po_if (Φ := fun p : Int32 × gw_S => p.1.toInt ≤ a.toInt ∧ p.1.toInt ≤ b.toInt) (fun h => ?_) (fun h => ?_)
  · rw [Int32.lt_iff_toInt_lt] at h; dsimp only; omega
  · rw [Int32.lt_iff_toInt_lt] at h; dsimp only; omega
theorem cb_min63 (S : gw_S) (a : Int32) : (f_Math_min S a (63 : Int32)).1.toInt ≤ 63 := (cb_min (S := S) (a := a) (b := 63)).2
theorem cb_end (S : gw_S) (a t : Int32) (h : cYb t) : (f_Math_min S a ((40 : Int32) - t)).1.toInt ≤ 40 - t.toInt := by
  have h1 := (cb_min (S := S) (a := a) (b := (40 : Int32) - t)).2
  have h2 : ((40 : Int32) - t).toInt = 40 - t.toInt := by
    unfold cYb at h
    have h3 : (40 : Int32).toInt = 40 := rfl
    rw [gw_subI (by omega) (by omega), h3]
  omega
set_option maxHeartbeats 4000000 in
set_option maxRecDepth 100000 in
theorem po_ok_Math_min   (S : gw_S) (a1 : Int32) (a2 : Int32) (hf_ok : cOK S) : cOK (f_Math_min S a1 a2).2 := by
  unfold f_Math_min
  refine po_if (Φ := fun p : Int32 × gw_S => cOK p.2) (fun h2 => ?_) (fun h2 => ?_)
  · exact hf_ok
  · exact hf_ok
def f_Arrays_rangeCheck   (S : gw_S) (a1 : Int32) (a2 : Int32) (a3 : Int32) : Unit × gw_S := (((), S))
set_option maxHeartbeats 4000000 in
set_option maxRecDepth 100000 in
theorem c_Arrays_rangeCheck (hJ : gw_J 46 ad)   (S : gw_S) (a1 : Int32) (a2 : Int32) (a3 : Int32) (hq1 : a2 ≤ a3) (hq2 : (0 : Int32) ≤ a2) (hq3 : a3 ≤ a1) : gw_M l y_Arrays_rangeCheck prog_11_method_30_code 3 none gTs (gw_rm 1) D gCl (gTys cI cB cC cZ) 46 ad (cE ad cI cB cC) gw_rV [.int a1, .int a2, .int a3] S (f_Arrays_rangeCheck S a1 a2 a3) := by
  refine gw_start gTs_ok (by decide +kernel) hJ (Nat.le_of_ble_eq_true rfl) (fun X A F => ?_)
  refine gw_lve (lv' := [(0, .int a1), (1, .int a2), (2, .int a3)]) rfl ?_
  unfold f_Arrays_rangeCheck
  refine gw_iload_n (pc := 0) F 1 d_Arrays_rangeCheck_0 rfl rfl ?_
  refine gw_iload_n (pc := 1) F 2 d_Arrays_rangeCheck_1 rfl rfl ?_
  refine gw_icmp_leT (pc := 2) (tgt := 46) F d_Arrays_rangeCheck_2 (by decide) hq1 ?_
  refine gw_iload_n (pc := 46) F 1 d_Arrays_rangeCheck_46 rfl rfl ?_
  refine gw_if_geT (pc := 47) (tgt := 59) F d_Arrays_rangeCheck_47 (by decide) hq2 ?_
  refine gw_iload_n (pc := 59) F 2 d_Arrays_rangeCheck_59 rfl rfl ?_
  refine gw_iload_n (pc := 60) F 0 d_Arrays_rangeCheck_60 rfl rfl ?_
  refine gw_icmp_leT (pc := 61) (tgt := 73) F d_Arrays_rangeCheck_61 (by decide) hq3 ?_
  exact gw_vret (pc := 73) F d_Arrays_rangeCheck_73
set_option maxHeartbeats 4000000 in
set_option maxRecDepth 100000 in
theorem po_ok_Arrays_rangeCheck   (S : gw_S) (a1 : Int32) (a2 : Int32) (a3 : Int32) (hf_ok : cOK S) (hq1 : a2 ≤ a3) (hq2 : (0 : Int32) ≤ a2) (hq3 : a3 ≤ a1) : cOK (f_Arrays_rangeCheck S a1 a2 a3).2 := by
  unfold f_Arrays_rangeCheck
  exact hf_ok
def fl_Arrays_fill_10   (a3 : Int32) (a4 : Int32) (n : Nat) : gw_S → Int32 → Unit × gw_S := gw_L1 (fun self S x4 => (if a3 ≤ x4 then (((), S)) else (gw_n (gw_u S 10 (x4 : Int32).toNatClampNeg (vp_nar .byte a4)) fun S20 => (self S20 (x4 + (1 : Int32)))))) (fun S _ => ((), S)) n
set_option maxHeartbeats 4000000 in
set_option maxRecDepth 100000 in
theorem l_Arrays_fill_10 {X : gx_M} {A : Nat → Prop}  (F : gw_F X l prog_11_method_110_code 5 none "java/util/Arrays" gTs (gw_rm 2) D gCl (gTys cI cB cC cZ) 46 ad A) (a3 : Int32) (a4 : Int32) (hq3 : a3 ≤ (10240 : Int32)) : ∀ (n : Nat) (S : gw_S) (x4 : Int32), 0 < n → (a3 : Int32).toInt - x4.toInt < (n : Int) → 0 ≤ x4.toInt → gw_V X (gw_P D gCl 46 ad (cE ad cI cB cC)) A 5 gw_rV S 10 [(0, .ref (ad 10)), (2, .int a3), (3, .int a4), (4, .int x4)] [] (fl_Arrays_fill_10 a3 a4 n S x4) := by
  intro n
  induction n with
  | zero => intro S x4 hn hf h0; exact absurd hn (Nat.lt_irrefl 0)
  | succ n ih =>
    intro S x4 hn hf h0
    refine gw_iload (pc := 10) F 3 d_Arrays_fill_10 rfl ?_
    refine gw_iload_n (pc := 12) F 1 d_Arrays_fill_12 rfl rfl ?_
    refine gw_icmp_geS (pc := 13) (tgt := 27) F d_Arrays_fill_13 (by decide) (fun h13 => ?_) (fun h13 => ?_)
    · exact gw_vret (pc := 27) F d_Arrays_fill_27
    · refine gw_aload_n (pc := 16) F 0 d_Arrays_fill_16 rfl rfl ?_
      refine gw_iload (pc := 17) F 3 d_Arrays_fill_17 rfl ?_
      refine gw_iload_n (pc := 19) F 2 d_Arrays_fill_19 rfl rfl ?_
      refine cs_Pix (pc := 20) F (gw_inX (N := 10240) (by decide) h13 hq3 h0) d_Arrays_fill_20 ?_
      refine gw_nS (fun S20 E20 => ?_)
      refine gw_iinc (pc := 21) (v := (x4 + (1 : Int32))) (lv' := [(4, .int (x4 + (1 : Int32))), (0, .ref (ad 10)), (2, .int a3), (3, .int a4)]) F 3 d_Arrays_fill_21 rfl (congrArg (HAdd.hAdd x4) (by decide)) (by decide) rfl ?_
      refine gw_goto (pc := 24) (tgt := 10) F d_Arrays_fill_24 (by decide) ?_
      refine gw_lvs (lv' := [(0, .ref (ad 10)), (2, .int a3), (3, .int a4), (4, .int (x4 + (1 : Int32)))]) [1, 2, 3, 0] rfl ?_
      exact ih S20 (x4 + (1 : Int32)) (gw_stp h13 hf).1 (gw_stp h13 hf).2.1 (gw_stp0 h13 h0)
def f_Arrays_fill   (S : gw_S) (a2 : Int32) (a3 : Int32) (a4 : Int32) : Unit × gw_S := (gw_b (f_Arrays_rangeCheck S (10240 : Int32) a2 a3) fun _ S4 => (fl_Arrays_fill_10 a3 a4 (((a3 : Int32).toInt - (a2 : Int32).toInt).toNat + 1) S4 a2))
set_option maxHeartbeats 4000000 in
set_option maxRecDepth 100000 in
theorem c_Arrays_fill (hJ : gw_J 46 ad)   (S : gw_S) (a2 : Int32) (a3 : Int32) (a4 : Int32) (hq1 : a2 ≤ a3) (hq2 : (0 : Int32) ≤ a2) (hq3 : a3 ≤ (10240 : Int32)) : gw_M l y_Arrays_fill prog_11_method_110_code 5 none gTs (gw_rm 2) D gCl (gTys cI cB cC cZ) 46 ad (cE ad cI cB cC) gw_rV [.ref (ad 10), .int a2, .int a3, .int a4] S (f_Arrays_fill S a2 a3 a4) := by
  refine gw_start gTs_ok (by decide +kernel) hJ (Nat.le_of_ble_eq_true rfl) (fun X A F => ?_)
  refine gw_lve (lv' := [(0, .ref (ad 10)), (1, .int a2), (2, .int a3), (3, .int a4)]) rfl ?_
  unfold f_Arrays_fill
  refine gw_aload_n (pc := 0) F 0 d_Arrays_fill_0 rfl rfl ?_
  refine cn_Pix (pc := 1) F d_Arrays_fill_1 ?_
  refine gw_iload_n (pc := 2) F 1 d_Arrays_fill_2 rfl rfl ?_
  refine gw_iload_n (pc := 3) F 2 d_Arrays_fill_3 rfl rfl ?_
  refine gw_cS (pc := 4) (As := [.int (10240 : Int32), .int a2, .int a3]) (rest := []) F (c_Arrays_rangeCheck (gw_FJ F) S (10240 : Int32) a2 a3 hq1 hq2 hq3) cw_Arrays_rangeCheck cv_Arrays_rangeCheck tw_322 rfl (by decide) (by decide) rfl rfl (Nat.le_of_ble_eq_true rfl) d_Arrays_fill_4 (gw_bV (P := fun _ U => True) trivial (fun _ S4 p4 => ?_))
  refine gw_iload_n (pc := 7) F 1 d_Arrays_fill_7 rfl rfl ?_
  refine gw_istore (pc := 8) (lv' := [(4, .int a2), (0, .ref (ad 10)), (1, .int a2), (2, .int a3), (3, .int a4)]) F d_Arrays_fill_8 (by decide) rfl ?_
  refine gw_lvs (lv' := [(0, .ref (ad 10)), (2, .int a3), (3, .int a4), (4, .int a2)]) [1, 3, 4, 0] rfl ?_
  exact l_Arrays_fill_10  F a3 a4 hq3 (((a3 : Int32).toInt - (a2 : Int32).toInt).toNat + 1) S4 a2 (Nat.succ_pos _) (gw_ent _) (gw_nn hq2)
set_option maxHeartbeats 4000000 in
set_option maxRecDepth 100000 in
theorem pl_ok_Arrays_fill_10  (a3 : Int32) (a4 : Int32) (hq3 : a3 ≤ (10240 : Int32)) : ∀ (n : Nat) (S : gw_S) (x4 : Int32), 0 < n → (a3 : Int32).toInt - x4.toInt < (n : Int) → 0 ≤ x4.toInt → cOK S → cOK (fl_Arrays_fill_10 a3 a4 n S x4).2 := by
  intro n
  induction n with
  | zero => intro S x4 hn hf h0 hf_ok; exact absurd hn (Nat.lt_irrefl 0)
  | succ n ih =>
    intro S x4 hn hf h0 hf_ok
    refine po_if (Φ := fun p : Unit × gw_S => cOK p.2) (fun h13 => ?_) (fun h13 => ?_)
    · exact hf_ok
    · refine po_n (Φ := fun p : Unit × gw_S => cOK p.2) (fun S20 E20 => ?_)
      exact ih S20 (x4 + (1 : Int32)) (gw_stp h13 hf).1 (gw_stp h13 hf).2.1 (gw_stp0 h13 h0) (cOK_x E20 hf_ok)
set_option maxHeartbeats 4000000 in
set_option maxRecDepth 100000 in
theorem po_ok_Arrays_fill   (S : gw_S) (a2 : Int32) (a3 : Int32) (a4 : Int32) (hf_ok : cOK S) (hq1 : a2 ≤ a3) (hq2 : (0 : Int32) ≤ a2) (hq3 : a3 ≤ (10240 : Int32)) : cOK (f_Arrays_fill S a2 a3 a4).2 := by
  unfold f_Arrays_fill
  refine po_b (Φ := fun p : Unit × gw_S => cOK p.2) (P := fun _ U => cOK U) (po_ok_Arrays_rangeCheck S (10240 : Int32) a2 a3 hf_ok hq1 hq2 hq3) (fun _ S4 p4 => ?_)
  exact pl_ok_Arrays_fill_10 a3 a4 hq3 (((a3 : Int32).toInt - (a2 : Int32).toInt).toNat + 1) S4 a2 (Nat.succ_pos _) (gw_ent _) (gw_nn hq2) p4
def f_Painter_scaled   (S : gw_S) (a1 : Int32) (a2 : Int32) : Int32 × gw_S := (gw_b (f_Math_fdI S (a1 * a2) (64 : Int32)) fun r5 S5 => (r5, S5))
set_option maxHeartbeats 4000000 in
set_option maxRecDepth 100000 in
theorem c_Painter_scaled (hJ : gw_J 46 ad)   (S : gw_S) (a1 : Int32) (a2 : Int32) : gw_M l y_Painter_scaled prog_5_method_9_code 2 (some .int) gTs (gw_rm 1) D gCl (gTys cI cB cC cZ) 46 ad (cE ad cI cB cC) gw_rI [.int a1, .int a2] S (f_Painter_scaled S a1 a2) := by
  refine gw_start gTs_ok (plainFor_of_name (by decide)) hJ (Nat.le_of_ble_eq_true rfl) (fun X A F => ?_)
  refine gw_lve (lv' := [(0, .int a1), (1, .int a2)]) rfl ?_
  unfold f_Painter_scaled
  refine gw_iload_n (pc := 0) F 0 d_Painter_scaled_0 rfl rfl ?_
  refine gw_iload_n (pc := 1) F 1 d_Painter_scaled_1 rfl rfl ?_
  refine gw_imul (pc := 2) F d_Painter_scaled_2 ?_
  refine gw_bipush (pc := 3) (v := (64 : Int32)) F d_Painter_scaled_3 (by decide) ?_
  refine gw_cS (pc := 5) (As := [.int (a1 * a2), .int (64 : Int32)]) (rest := []) F (c_Math_fdI (gw_FJ F) S (a1 * a2) (64 : Int32) (by decide)) cw_Math_fdI cv_Math_fdI tw_348 rfl (by decide) (by decide) rfl rfl (Nat.le_of_ble_eq_true rfl) d_Painter_scaled_5 (gw_bI (P := fun r U => True) trivial (fun r5 S5 p5 => ?_))
  exact gw_iret (pc := 8) F d_Painter_scaled_8
set_option maxHeartbeats 4000000 in
set_option maxRecDepth 100000 in
theorem po_ok_Painter_scaled   (S : gw_S) (a1 : Int32) (a2 : Int32) (hf_ok : cOK S) : cOK (f_Painter_scaled S a1 a2).2 := by
  unfold f_Painter_scaled
  refine po_b (Φ := fun p : Int32 × gw_S => cOK p.2) (P := fun r U => cOK U) (po_ok_Math_fdI S (a1 * a2) (64 : Int32) hf_ok (by decide)) (fun r5 S5 p5 => ?_)
  exact p5
def f_Pages_fill   (S : gw_S) (a1 : Int32) (a2 : Int32) : Unit × gw_S := (gw_n (a1 * (2560 : Int32)) fun v5 => gw_b (f_Arrays_fill S v5 (v5 + (2560 : Int32)) ((a2 : Int32).toInt8.toInt32)) fun _ S18 => ((), S18))
set_option maxHeartbeats 4000000 in
set_option maxRecDepth 100000 in
theorem c_Pages_fill (hJ : gw_J 46 ad)   (S : gw_S) (a1 : Int32) (a2 : Int32) (hb1 : vp_in a1 4) : gw_M l y_Pages_fill prog_4_method_4_code 4 none gTs (gw_rm 3) D gCl (gTys cI cB cC cZ) 46 ad (cE ad cI cB cC) gw_rV [.ref (ad 9), .int a1, .int a2] S (f_Pages_fill S a1 a2) := by
  refine gw_start gTs_ok (plainFor_of_name (by decide)) hJ (Nat.le_of_ble_eq_true rfl) (fun X A F => ?_)
  refine gw_lve (lv' := [(0, .ref (ad 9)), (1, .int a1), (2, .int a2)]) rfl ?_
  unfold f_Pages_fill
  refine gw_iload_n (pc := 0) F 1 d_Pages_fill_0 rfl rfl ?_
  refine gw_sipush (pc := 1) (v := (2560 : Int32)) F d_Pages_fill_1 (by decide) ?_
  refine gw_imul (pc := 4) F d_Pages_fill_4 ?_
  refine gw_nI (fun v5 e5 => ?_)
  refine gw_istore_n (pc := 5) (lv' := [(3, .int v5), (0, .ref (ad 9)), (1, .int a1), (2, .int a2)]) F d_Pages_fill_5 rfl (by decide) rfl ?_
  refine gw_aload_n (pc := 6) F 1 d_Pages_fill_6 rfl rfl ?_
  refine cg_Pages_pixels (pc := 7) F tw_52 d_Pages_fill_7 ?_
  refine gw_iload_n (pc := 10) F 0 d_Pages_fill_10 rfl rfl ?_
  refine gw_iload_n (pc := 11) F 0 d_Pages_fill_11 rfl rfl ?_
  refine gw_sipush (pc := 12) (v := (2560 : Int32)) F d_Pages_fill_12 (by decide) ?_
  refine gw_iadd (pc := 15) F d_Pages_fill_15 ?_
  refine gw_iload_n (pc := 16) F 3 d_Pages_fill_16 rfl rfl ?_
  refine gw_i2b (pc := 17) F d_Pages_fill_17 ?_
  refine gw_cS (pc := 18) (As := [.ref (ad 10), .int v5, .int (v5 + (2560 : Int32)), .int ((a2 : Int32).toInt8.toInt32)]) (rest := []) F (c_Arrays_fill (gw_FJ F) S v5 (v5 + (2560 : Int32)) ((a2 : Int32).toInt8.toInt32) (pg_1 e5 hb1) (pg_2 e5 hb1) (pg_3 e5 hb1)) cw_Arrays_fill cv_Arrays_fill tw_319 rfl (by decide) (by decide) rfl rfl (Nat.le_of_ble_eq_true rfl) d_Pages_fill_18 (gw_bV (P := fun _ U => True) trivial (fun _ S18 p18 => ?_))
  exact gw_vret (pc := 21) F d_Pages_fill_21
set_option maxHeartbeats 4000000 in
set_option maxRecDepth 100000 in
theorem po_ok_Pages_fill   (S : gw_S) (a1 : Int32) (a2 : Int32) (hf_ok : cOK S) (hb1 : vp_in a1 4) : cOK (f_Pages_fill S a1 a2).2 := by
  unfold f_Pages_fill
  refine po_n (Φ := fun p : Unit × gw_S => cOK p.2) (fun v5 e5 => ?_)
  refine po_b (Φ := fun p : Unit × gw_S => cOK p.2) (P := fun _ U => cOK U) (po_ok_Arrays_fill S v5 (v5 + (2560 : Int32)) ((a2 : Int32).toInt8.toInt32) hf_ok (pg_1 e5 hb1) (pg_2 e5 hb1) (pg_3 e5 hb1)) (fun _ S18 p18 => ?_)
  exact p18
end
end
section
def cSb (x : Int32) : Prop := -130560 ≤ x.toInt ∧ x.toInt ≤ 130560
def cXb (a x : Int32) : Prop := -(32768 + 261120 * a.toInt) ≤ x.toInt ∧ x.toInt ≤ 32768 + 261120 * a.toInt
def cGb (a x : Int32) : Prop := -(163328 + 261120 * a.toInt) ≤ x.toInt ∧ x.toInt ≤ 163328 + 261120 * a.toInt
def cZb (x : Int32) : Prop := -1338368 ≤ x.toInt ∧ x.toInt ≤ 1338368
def cBb (x : Int32) : Prop := -1468928 ≤ x.toInt ∧ x.toInt ≤ 1468928
theorem cSh_i {x : Int32} (h : cSh x) : -32768 ≤ x.toInt ∧ x.toInt ≤ 32767 := by
  unfold cSh at h
  have h1 := Int16.le_toInt x.toInt16
  have h2 := Int16.toInt_lt x.toInt16
  have h3 : x.toInt16.toInt32.toInt = x.toInt16.toInt := by simp
  rw [h] at h3
  omega
theorem cSh_64 : cSh (64 : Int32) := by unfold cSh; decide
theorem cOK_sh {S : gw_S} {v : Int32} {i : Nat} (h : cOK S) (e : v = S 4 i) : cSh v := by rw [e]; exact (h 4 i).2.1 rfl
theorem cXb_0 {x : Int32} (h : cSh x) : cXb (0 : Int32) x := by
  have h1 := cSh_i h
  unfold cXb
  rw [Int32.toInt_zero]
  omega
theorem cXb_z {a x : Int32} {K : Nat} (h : cXb a x) (h6 : a.toInt + (K : Int) = 5) : cZb x := by
  unfold cXb at h; unfold cZb; omega
theorem cXb_g {a x s v : Int32} {K : Nat} (e : v = x - s) (h : cXb a x) (hs : cSb s) (hK : K ≤ 5) (h6 : a.toInt + (K : Int) = 5) : cGb a v := by
  unfold cXb at h; unfold cSb at hs; unfold cGb
  have h1 := gw_subI (a := x) (b := s) (by omega) (by omega)
  rw [e, h1]; omega
theorem cXb_p {a x s v : Int32} {K : Nat} (e : v = x + s) (h : cGb a x) (hs : cSb s) (hK : K ≤ 5) (h6 : a.toInt + (K : Int) = 5) (h4 : a.toInt ≤ 4) : cXb (a + (1 : Int32)) v := by
  unfold cGb at h; unfold cSb at hs; unfold cXb
  have h1 := gw_addI (a := x) (b := s) (by omega) (by omega)
  have h2 := gw_add1 (i := a) (by omega)
  rw [e, h1, h2]; omega
theorem cZb_b {x s v : Int32} (e : v = x - s) (h : cZb x) (hs : cSb s) : cBb v := by
  unfold cZb at h; unfold cSb at hs; unfold cBb
  have h1 := gw_subI (a := x) (b := s) (by omega) (by omega)
  rw [e, h1]; omega
theorem cBb_y {x s : Int32} (h : cBb x) (hs : cSb s) : cYb (x + s) := by
  unfold cBb at h; unfold cSb at hs; unfold cYb
  have h1 := gw_addI (a := x) (b := s) (by omega) (by omega)
  rw [h1]; omega
theorem gw_inL {i b : Int32} {N : Nat} (hb : vp_in b N) (h : ¬ b ≤ i) (h0 : 0 ≤ i.toInt) : vp_in i N := by
  rw [vp_in_iff] at hb ⊢
  rw [Int32.le_iff_toInt_le] at h
  omega
theorem gw_xor_sign {x y : Int32} (hy : 0 ≤ y.toInt) : 0 ≤ (x ^^^ y) ↔ 0 ≤ x.toInt := by
  rw [Int32.le_iff_toInt_le, Int32.toInt_zero]
  have e2 : ∀ z : Int32, z.toBitVec.msb = decide (z.toInt < 0) := fun z => by rw [BitVec.msb_eq_toInt]; rfl
  have e1 : (x ^^^ y).toBitVec.msb = (x.toBitVec.msb ^^ y.toBitVec.msb) := by rw [Int32.toBitVec_xor, BitVec.msb_xor]
  rw [e2, e2, e2] at e1
  have e3 : decide (y.toInt < 0) = false := by simp; omega
  rw [e3, Bool.xor_false] at e1
  have e4 : (x ^^^ y).toInt < 0 ↔ x.toInt < 0 := by simpa using e1
  omega
theorem gw_tdivB (X Y : Int) (hY : 0 < Y) : (0 ≤ X → X.tdiv Y = X / Y) ∧ (X < 0 → X.tdiv Y = -((-X) / Y)) := by
  constructor
  · intro h; exact Int.tdiv_eq_ediv_of_nonneg h
  · intro h
    have h1 : X.tdiv Y = -((-X).tdiv Y) := by rw [Int.neg_tdiv, Int.neg_neg]
    rw [h1, Int.tdiv_eq_ediv_of_nonneg (by omega)]
theorem gw_fdN (X Y : Int) (hY : 0 < Y) (hX : X < 0) : (-((-X) / Y) * Y = X → X / Y = -((-X) / Y)) ∧ (¬ -((-X) / Y) * Y = X → X / Y = -((-X) / Y) - 1) := by
  have a1 := Int.mul_ediv_add_emod (-X) Y
  have a2 := Int.emod_nonneg (-X) (by omega : Y ≠ 0)
  have a3 := Int.emod_lt_of_pos (-X) hY
  have hc : (-X) / Y * Y = Y * ((-X) / Y) := Int.mul_comm _ _
  constructor
  · intro h
    have h2 : X = Y * (-((-X) / Y)) := by rw [Int.mul_comm]; exact h.symm
    rw [show X / Y = (Y * (-((-X) / Y))) / Y from by rw [← h2]]
    exact Int.mul_ediv_cancel_left _ (by omega)
  · intro h
    have hr : 0 < (-X) % Y := by
      rcases Int.lt_or_le 0 ((-X) % Y) with q | q
      · exact q
      · exfalso
        apply h
        rw [Int.neg_mul, hc]
        omega
    have h2 : X = Y * (-((-X) / Y) - 1) + (Y - (-X) % Y) := by
      rw [Int.mul_sub, Int.mul_neg, Int.mul_one]
      omega
    exact ((Int.ediv_emod_unique (a := X) (b := Y) (r := Y - (-X) % Y) (q := -((-X) / Y) - 1) hY).mpr ⟨by rw [Int.add_comm]; exact h2.symm, by omega, by omega⟩).1
theorem gw_mulB {X Y : Int} (hY : 0 < Y) : (0 ≤ X → 0 ≤ X / Y * Y ∧ X / Y * Y ≤ X ∧ 0 ≤ X / Y ∧ X / Y ≤ X) := by
  intro h
  have a1 := Int.mul_ediv_add_emod X Y
  have a2 := Int.emod_nonneg X (by omega : Y ≠ 0)
  have a3 := Int.emod_lt_of_pos X hY
  have a4 : 0 ≤ X / Y := Int.ediv_nonneg h (by omega)
  have a5 : X / Y ≤ X := Int.ediv_le_self _ h
  have hc : X / Y * Y = Y * (X / Y) := Int.mul_comm _ _
  have a6 : 0 ≤ Y * (X / Y) := Int.mul_nonneg (by omega) a4
  omega
theorem cb_fdI (S : gw_S) (x y : Int32) (hy : 0 < y.toInt) : (f_Math_fdI S x y).1.toInt = x.toInt / y.toInt := by
  have b1 := Int32.le_toInt x
  have b2 := Int32.toInt_lt x
  obtain ⟨t1, t2⟩ := gw_tdivB x.toInt y.toInt hy
  have hq : (x / y).toInt = x.toInt.tdiv y.toInt := by
    rw [Int32.toInt_div]
    rcases Int.lt_or_le x.toInt 0 with h | h
    · rw [t2 h]
      have := (gw_mulB (X := -x.toInt) hy) (by omega)
      exact Int.bmod_eq_of_le (by omega) (by omega)
    · rw [t1 h]
      have := (gw_mulB (X := x.toInt) hy) h
      exact Int.bmod_eq_of_le (by omega) (by omega)
  have hs := gw_xor_sign (x := x) (y := y) (by omega)
  unfold f_Math_fdI
  refine po_n (Φ := fun p : Int32 × gw_S => p.1.toInt = x.toInt / y.toInt) (fun v e => ?_)
  have hv : v.toInt = x.toInt.tdiv y.toInt := by rw [e]; exact hq
  refine po_if (Φ := fun p : Int32 × gw_S => p.1.toInt = x.toInt / y.toInt) (fun h => ?_) (fun h => ?_)
  · rw [← t1 (hs.mp h)]; exact hv
  · have hx : x.toInt < 0 := by
      rcases Int.lt_or_le x.toInt 0 with q | q
      · exact q
      · exact absurd (hs.mpr q) h
    obtain ⟨n1, n2⟩ := gw_fdN x.toInt y.toInt hy hx
    have hm := (gw_mulB (X := -x.toInt) hy) (by omega)
    have hvt : v.toInt = -((-x.toInt) / y.toInt) := by rw [hv, t2 hx]
    have hp : (v * y).toInt = -((-x.toInt) / y.toInt) * y.toInt := by
      rw [Int32.toInt_mul, hvt]
      have : -((-x.toInt) / y.toInt) * y.toInt = -((-x.toInt) / y.toInt * y.toInt) := Int.neg_mul _ _
      exact Int.bmod_eq_of_le (by omega) (by omega)
    refine po_if (Φ := fun p : Int32 × gw_S => p.1.toInt = x.toInt / y.toInt) (fun h2 => ?_) (fun h2 => ?_)
    · have h3 : -((-x.toInt) / y.toInt) * y.toInt = x.toInt := by rw [← hp, h2]
      rw [n1 h3]; exact hvt
    · have h3 : ¬ -((-x.toInt) / y.toInt) * y.toInt = x.toInt := by
        intro q
        apply h2
        apply Int32.toInt_inj.mp
        rw [hp, q]
      have hz : (-x.toInt) / y.toInt * 1 ≤ (-x.toInt) / y.toInt * y.toInt := Int.mul_le_mul_of_nonneg_left (by omega) hm.2.2.1
      have hw : -((-x.toInt) / y.toInt) * y.toInt = -((-x.toInt) / y.toInt * y.toInt) := Int.neg_mul _ _
      rw [n2 h3]
      show (v - (1 : Int32)).toInt = _
      have h1 : (1 : Int32).toInt = 1 := rfl
      rw [gw_subI (by omega) (by omega), h1, hvt]
theorem gw_mulI {a b : Int32} (h1 : -2147483648 ≤ a.toInt * b.toInt) (h2 : a.toInt * b.toInt ≤ 2147483647) : (a * b).toInt = a.toInt * b.toInt := by
  rw [Int32.toInt_mul]
  exact Int.bmod_eq_of_le (by omega) (by omega)
theorem gw_bz {b z : Int} (h0 : 0 ≤ b) (h1 : b ≤ 255) (h2 : -32768 ≤ z) (h3 : z ≤ 32767) : -8355840 ≤ b * z ∧ b * z ≤ 8355585 := by
  have a1 : b * z ≤ b * 32767 := Int.mul_le_mul_of_nonneg_left h3 h0
  have a2 : b * (-32768) ≤ b * z := Int.mul_le_mul_of_nonneg_left h2 h0
  omega
theorem cb_scaledI (S : gw_S) (b z : Int32) (hb : vp_in b 256) (hz : cSh z) : (f_Painter_scaled S b z).1.toInt = b.toInt * z.toInt / 64 := by
  have hz := cSh_i hz
  rw [vp_in_iff] at hb
  have h := gw_bz (b := b.toInt) (z := z.toInt) (by omega) (by omega) (by omega) (by omega)
  have e1 := gw_mulI (a := b) (b := z) (by omega) (by omega)
  have e2 := cb_fdI S (b * z) (64 : Int32) (by decide)
  rw [e1, show (64 : Int32).toInt = 64 from rfl] at e2
  exact e2
theorem cb_scaled (S : gw_S) (b z : Int32) (hb : vp_in b 256) (hz : cSh z) : cSb (f_Painter_scaled S b z).1 := by
  have e := cb_scaledI S b z hb hz
  have hz := cSh_i hz
  rw [vp_in_iff] at hb
  have h := gw_bz (b := b.toInt) (z := z.toInt) (by omega) (by omega) (by omega) (by omega)
  unfold cSb
  rw [e]
  omega
theorem cb_half (S : gw_S) (x : Int32) (h : cSb x) : cSb (f_Math_fdI S x (2 : Int32)).1 := by
  have e := cb_fdI S x (2 : Int32) (by decide)
  rw [show (2 : Int32).toInt = 2 from rfl] at e
  unfold cSb at h ⊢
  rw [e]
  omega
end
section
theorem gw_inP {x b : Int32} (hb : vp_in b 16) (h : ¬ b ≤ x + (1 : Int32)) (h1 : (x + 1).toInt = x.toInt + 1) (h0 : 0 ≤ x.toInt) : vp_in x 15 := by
  rw [vp_in_iff] at hb ⊢
  rw [Int32.le_iff_toInt_le] at h
  omega
theorem gw_in15 {x : Int32} (h : vp_in x 15) : vp_in x 16 := by
  rw [vp_in_iff] at h ⊢
  omega
theorem gw_in15s {x : Int32} (h : vp_in x 15) : vp_in (x + (1 : Int32)) 16 := by
  rw [vp_in_iff] at h ⊢
  have h1 := gw_add1 (i := x) (by omega)
  omega
theorem gw_posI {v : Int32} (h : ¬ v ≤ 0) : 0 < v.toInt := by
  rw [Int32.le_iff_toInt_le, Int32.toInt_zero] at h; omega
theorem cRw {S : gw_S} {v : Int32} {a b : Nat} (e : v = S 13 a - S 13 b) (h : cOK S) : v.toInt ≤ 4194304 := by
  have h1 := (h 13 a).2.2.2.2 (Or.inr (Or.inr rfl))
  have h2 := (h 13 b).2.2.2.2 (Or.inr (Or.inr rfl))
  unfold cYb at h1 h2
  rw [e, gw_subI (by omega) (by omega)]
  omega
theorem gw_nz64 {v : Int32} (h : 0 < v.toInt) : ¬ v.toInt64 = 0 := by
  intro q
  have h1 : v.toInt64.toInt = v.toInt := by simp
  rw [q] at h1
  have h2 : (0 : Int64).toInt = 0 := rfl
  omega
theorem cOK_yy {S : gw_S} {v : Int32} {i : Nat} (h : cOK S) (e : v = S 13 i) : cYb v := by rw [e]; exact (h 13 i).2.2.2.2 (Or.inr (Or.inr rfl))
theorem gw_le4 {a : Int32} (h : ¬ (4 : Int32) < a) : a.toInt ≤ 4 := by
  rw [Int32.lt_iff_toInt_lt, show (4 : Int32).toInt = 4 from rfl] at h; omega
theorem gw_k1 {a : Int32} {K : Nat} (h6 : a.toInt + (K : Int) = 5) (h4 : a.toInt ≤ 4) : (a + (1 : Int32)).toInt + ((K - 1 : Nat) : Int) = 5 := by
  have h1 := gw_add1 (i := a) (by omega)
  omega
theorem gw_t1 {t j b : Int32} (h : ¬ b ≤ j) (ht : 0 ≤ t.toInt + j.toInt) : 0 ≤ t.toInt + (j + 1).toInt := by
  rw [gw_lt1 h]; omega
theorem dr_fill {w t j r f o b : Int32} (hw : vp_in w 4) (hr : r = w * (2560 : Int32) + (t + j) * (64 : Int32)) (h0 : 0 ≤ t.toInt + j.toInt) (hj : ¬ b ≤ j) (hb : b.toInt ≤ 40 - t.toInt) (hf : 0 ≤ f.toInt) (ho : o.toInt ≤ 63) (hfo : ¬ o < f) : (r + f ≤ (r + o) + (1 : Int32)) ∧ ((0 : Int32) ≤ r + f) ∧ ((r + o) + (1 : Int32) ≤ (10240 : Int32)) := by
  rw [Int32.le_iff_toInt_le] at hj
  rw [Int32.lt_iff_toInt_lt] at hfo
  have h1 := gw_addI (a := t) (b := j) (by omega) (by omega)
  have hq : vp_in (t + j) 40 := by rw [vp_in_iff, h1]; omega
  have hff : vp_in f 64 := by rw [vp_in_iff]; omega
  have hoo : vp_in o 64 := by rw [vp_in_iff]; omega
  obtain ⟨a, ha, e1⟩ := vp_in_of hw (by decide)
  obtain ⟨c, hc, e2⟩ := vp_in_of hq (by decide)
  obtain ⟨d, hd, e3⟩ := vp_in_of hff (by decide)
  obtain ⟨e, he, e4⟩ := vp_in_of hoo (by decide)
  have hde : d ≤ e := by
    rw [e3, e4, nI_toInt (by omega), nI_toInt (by omega)] at hfo
    omega
  have er : r = nI (a * 2560 + c * 64) := by
    rw [hr, e1, e2, show (2560 : Int32) = nI 2560 from rfl, show (64 : Int32) = nI 64 from rfl, pk_mul, pk_mul, nI_add]
  rw [er, e3, e4, nI_add, nI_add, nI_1, show (10240 : Int32) = nI 10240 from rfl]
  exact ⟨nI_le (by omega) (by omega), nI_pos' (by omega), nI_le (by omega) (by omega)⟩

section
variable {l : Launch} {D : va_G} {cI cB cC cZ : ClassId} {ad : Nat → Nat}
def fl_Painter_placePairs_69   (a4 : Int32) (y5 : Int32) (y6 : Int32) (y7 : Int32) (y8 : Int32) (n : Nat) : gw_S → Int32 → Unit × gw_S := gw_L1 (fun self S x9 => (if y7 ≤ x9 then (((), S)) else (gw_b (f_Bytes_read 7 S (y8 + ((2 : Int32) * x9))) fun r95 S95 => gw_b (f_Painter_scaled S95 r95 a4) fun r100 S100 => gw_n (gw_u S100 11 (x9 : Int32).toNatClampNeg (y5 + r100)) fun S104 => gw_b (f_Bytes_read 7 S104 ((y8 + ((2 : Int32) * x9)) + (1 : Int32))) fun r126 S126 => gw_b (f_Painter_scaled S126 r126 a4) fun r131 S131 => gw_n (gw_u S131 13 (x9 : Int32).toNatClampNeg (y6 + r131)) fun S135 => gw_b (f_Bytes_read 7 S135 ((y8 + ((2 : Int32) * y7)) + x9)) fun r158 S158 => gw_b (f_Painter_scaled S158 r158 a4) fun r163 S163 => gw_n (gw_u S163 12 (x9 : Int32).toNatClampNeg (y5 + r163)) fun S167 => (self S167 (x9 + (1 : Int32)))))) (fun S _ => ((), S)) n
set_option maxHeartbeats 4000000 in
set_option maxRecDepth 100000 in
theorem l_Painter_placePairs_69 {X : gx_M} {A : Nat → Prop}  (F : gw_F X l prog_5_method_5_code 10 none "StageMachine$Painter" gTs (gw_rm 2) D gCl (gTys cI cB cC cZ) 46 ad A) (a4 : Int32) (y5 : Int32) (y6 : Int32) (y7 : Int32) (y8 : Int32) (hl7 : vp_in y7 16) (h5 : cBb y5) (h6 : cBb y6) (hz : cSh a4) : ∀ (n : Nat) (S : gw_S) (x9 : Int32), 0 < n → (y7 : Int32).toInt - x9.toInt < (n : Int) → 0 ≤ x9.toInt → cOK S → gw_V X (gw_P D gCl 46 ad (cE ad cI cB cC)) A 10 gw_rV S 69 [(0, .ref (ad 6)), (4, .int a4), (5, .int y5), (6, .int y6), (7, .int y7), (8, .int y8), (9, .int x9)] [] (fl_Painter_placePairs_69 a4 y5 y6 y7 y8 n S x9) := by
  intro n
  induction n with
  | zero => intro S x9 hn hf h0 hf_ok; exact absurd hn (Nat.lt_irrefl 0)
  | succ n ih =>
    intro S x9 hn hf h0 hf_ok
    refine gw_iload (pc := 69) F 6 d_Painter_placePairs_69 rfl ?_
    refine gw_iload (pc := 71) F 4 d_Painter_placePairs_71 rfl ?_
    refine gw_icmp_geS (pc := 73) (tgt := 174) F d_Painter_placePairs_73 (by decide) (fun h73 => ?_) (fun h73 => ?_)
    · exact gw_vret (pc := 174) F d_Painter_placePairs_174
    · refine gw_aload_n (pc := 76) F 0 d_Painter_placePairs_76 rfl rfl ?_
      refine cg_Painter_rightXs (pc := 77) F tw_73 d_Painter_placePairs_77 ?_
      refine gw_iload (pc := 80) F 6 d_Painter_placePairs_80 rfl ?_
      refine gw_iload (pc := 82) F 2 d_Painter_placePairs_82 rfl ?_
      refine gw_aload_n (pc := 84) F 0 d_Painter_placePairs_84 rfl rfl ?_
      refine cg_Painter_shapes (pc := 85) F tw_68 d_Painter_placePairs_85 ?_
      refine gw_iload (pc := 88) F 5 d_Painter_placePairs_88 rfl ?_
      refine gw_iconst (pc := 90) (v := (2 : Int32)) F d_Painter_placePairs_90 (by decide) ?_
      refine gw_iload (pc := 91) F 6 d_Painter_placePairs_91 rfl ?_
      refine gw_imul (pc := 93) F d_Painter_placePairs_93 ?_
      refine gw_iadd (pc := 94) F d_Painter_placePairs_94 ?_
      refine gw_cV (pc := 95) (As := [.int (y8 + ((2 : Int32) * x9))]) (rest := [.int y5, .int x9, .ref (ad 11)]) F (c_Bytes_read (gw_FJ F) (Or.inr rfl) S (y8 + ((2 : Int32) * x9))) cw_Bytes_read cv_Bytes_read tw_340 rfl (by decide) (by decide) (chi_Bytes (Or.inr rfl)) (cE_Bytes (Or.inr rfl)) rfl rfl rfl rfl (Nat.le_of_ble_eq_true rfl) d_Painter_placePairs_95 (gw_bI (P := fun r U => cOK U ∧ vp_in r 256) ⟨(po_ok_Bytes_read (Or.inr rfl) S (y8 + ((2 : Int32) * x9)) hf_ok), (cb_read (Or.inr rfl) S (y8 + ((2 : Int32) * x9)) hf_ok)⟩ (fun r95 S95 p95 => ?_))
      refine gw_iload (pc := 98) F 1 d_Painter_placePairs_98 rfl ?_
      refine gw_cS (pc := 100) (As := [.int r95, .int a4]) (rest := [.int y5, .int x9, .ref (ad 11)]) F (c_Painter_scaled (gw_FJ F) S95 r95 a4) cw_Painter_scaled cv_Painter_scaled tw_345 rfl (by decide) (by decide) rfl rfl (Nat.le_of_ble_eq_true rfl) d_Painter_placePairs_100 (gw_bI (P := fun r U => cOK U ∧ cSb r) ⟨(po_ok_Painter_scaled S95 r95 a4 p95.1), (cb_scaled S95 r95 a4 p95.2 hz)⟩ (fun r100 S100 p100 => ?_))
      refine gw_iadd (pc := 103) F d_Painter_placePairs_103 ?_
      refine cs_RXs (pc := 104) F (gw_inL hl7 h73 h0) d_Painter_placePairs_104 ?_
      refine gw_nS (fun S104 E104 => ?_)
      refine gw_aload_n (pc := 105) F 0 d_Painter_placePairs_105 rfl rfl ?_
      refine cg_Painter_pairYs (pc := 106) F tw_75 d_Painter_placePairs_106 ?_
      refine gw_iload (pc := 109) F 6 d_Painter_placePairs_109 rfl ?_
      refine gw_iload (pc := 111) F 3 d_Painter_placePairs_111 rfl ?_
      refine gw_aload_n (pc := 113) F 0 d_Painter_placePairs_113 rfl rfl ?_
      refine cg_Painter_shapes (pc := 114) F tw_68 d_Painter_placePairs_114 ?_
      refine gw_iload (pc := 117) F 5 d_Painter_placePairs_117 rfl ?_
      refine gw_iconst (pc := 119) (v := (2 : Int32)) F d_Painter_placePairs_119 (by decide) ?_
      refine gw_iload (pc := 120) F 6 d_Painter_placePairs_120 rfl ?_
      refine gw_imul (pc := 122) F d_Painter_placePairs_122 ?_
      refine gw_iadd (pc := 123) F d_Painter_placePairs_123 ?_
      refine gw_iconst (pc := 124) (v := (1 : Int32)) F d_Painter_placePairs_124 (by decide) ?_
      refine gw_iadd (pc := 125) F d_Painter_placePairs_125 ?_
      refine gw_cV (pc := 126) (As := [.int ((y8 + ((2 : Int32) * x9)) + (1 : Int32))]) (rest := [.int y6, .int x9, .ref (ad 13)]) F (c_Bytes_read (gw_FJ F) (Or.inr rfl) S104 ((y8 + ((2 : Int32) * x9)) + (1 : Int32))) cw_Bytes_read cv_Bytes_read tw_340 rfl (by decide) (by decide) (chi_Bytes (Or.inr rfl)) (cE_Bytes (Or.inr rfl)) rfl rfl rfl rfl (Nat.le_of_ble_eq_true rfl) d_Painter_placePairs_126 (gw_bI (P := fun r U => cOK U ∧ vp_in r 256) ⟨(po_ok_Bytes_read (Or.inr rfl) S104 ((y8 + ((2 : Int32) * x9)) + (1 : Int32)) (cOK_y E104 p100.1 (by omega) (cBb_y h5 p100.2))), (cb_read (Or.inr rfl) S104 ((y8 + ((2 : Int32) * x9)) + (1 : Int32)) (cOK_y E104 p100.1 (by omega) (cBb_y h5 p100.2)))⟩ (fun r126 S126 p126 => ?_))
      refine gw_iload (pc := 129) F 1 d_Painter_placePairs_129 rfl ?_
      refine gw_cS (pc := 131) (As := [.int r126, .int a4]) (rest := [.int y6, .int x9, .ref (ad 13)]) F (c_Painter_scaled (gw_FJ F) S126 r126 a4) cw_Painter_scaled cv_Painter_scaled tw_345 rfl (by decide) (by decide) rfl rfl (Nat.le_of_ble_eq_true rfl) d_Painter_placePairs_131 (gw_bI (P := fun r U => cOK U ∧ cSb r) ⟨(po_ok_Painter_scaled S126 r126 a4 p126.1), (cb_scaled S126 r126 a4 p126.2 hz)⟩ (fun r131 S131 p131 => ?_))
      refine gw_iadd (pc := 134) F d_Painter_placePairs_134 ?_
      refine cs_PYs (pc := 135) F (gw_inL hl7 h73 h0) d_Painter_placePairs_135 ?_
      refine gw_nS (fun S135 E135 => ?_)
      refine gw_aload_n (pc := 136) F 0 d_Painter_placePairs_136 rfl rfl ?_
      refine cg_Painter_leftXs (pc := 137) F tw_74 d_Painter_placePairs_137 ?_
      refine gw_iload (pc := 140) F 6 d_Painter_placePairs_140 rfl ?_
      refine gw_iload (pc := 142) F 2 d_Painter_placePairs_142 rfl ?_
      refine gw_aload_n (pc := 144) F 0 d_Painter_placePairs_144 rfl rfl ?_
      refine cg_Painter_shapes (pc := 145) F tw_68 d_Painter_placePairs_145 ?_
      refine gw_iload (pc := 148) F 5 d_Painter_placePairs_148 rfl ?_
      refine gw_iconst (pc := 150) (v := (2 : Int32)) F d_Painter_placePairs_150 (by decide) ?_
      refine gw_iload (pc := 151) F 4 d_Painter_placePairs_151 rfl ?_
      refine gw_imul (pc := 153) F d_Painter_placePairs_153 ?_
      refine gw_iadd (pc := 154) F d_Painter_placePairs_154 ?_
      refine gw_iload (pc := 155) F 6 d_Painter_placePairs_155 rfl ?_
      refine gw_iadd (pc := 157) F d_Painter_placePairs_157 ?_
      refine gw_cV (pc := 158) (As := [.int ((y8 + ((2 : Int32) * y7)) + x9)]) (rest := [.int y5, .int x9, .ref (ad 12)]) F (c_Bytes_read (gw_FJ F) (Or.inr rfl) S135 ((y8 + ((2 : Int32) * y7)) + x9)) cw_Bytes_read cv_Bytes_read tw_340 rfl (by decide) (by decide) (chi_Bytes (Or.inr rfl)) (cE_Bytes (Or.inr rfl)) rfl rfl rfl rfl (Nat.le_of_ble_eq_true rfl) d_Painter_placePairs_158 (gw_bI (P := fun r U => cOK U ∧ vp_in r 256) ⟨(po_ok_Bytes_read (Or.inr rfl) S135 ((y8 + ((2 : Int32) * y7)) + x9) (cOK_y E135 p131.1 (by omega) (cBb_y h6 p131.2))), (cb_read (Or.inr rfl) S135 ((y8 + ((2 : Int32) * y7)) + x9) (cOK_y E135 p131.1 (by omega) (cBb_y h6 p131.2)))⟩ (fun r158 S158 p158 => ?_))
      refine gw_iload (pc := 161) F 1 d_Painter_placePairs_161 rfl ?_
      refine gw_cS (pc := 163) (As := [.int r158, .int a4]) (rest := [.int y5, .int x9, .ref (ad 12)]) F (c_Painter_scaled (gw_FJ F) S158 r158 a4) cw_Painter_scaled cv_Painter_scaled tw_345 rfl (by decide) (by decide) rfl rfl (Nat.le_of_ble_eq_true rfl) d_Painter_placePairs_163 (gw_bI (P := fun r U => cOK U ∧ cSb r) ⟨(po_ok_Painter_scaled S158 r158 a4 p158.1), (cb_scaled S158 r158 a4 p158.2 hz)⟩ (fun r163 S163 p163 => ?_))
      refine gw_iadd (pc := 166) F d_Painter_placePairs_166 ?_
      refine cs_LXs (pc := 167) F (gw_inL hl7 h73 h0) d_Painter_placePairs_167 ?_
      refine gw_nS (fun S167 E167 => ?_)
      refine gw_iinc (pc := 168) (v := (x9 + (1 : Int32))) (lv' := [(9, .int (x9 + (1 : Int32))), (0, .ref (ad 6)), (4, .int a4), (5, .int y5), (6, .int y6), (7, .int y7), (8, .int y8)]) F 6 d_Painter_placePairs_168 rfl (congrArg (HAdd.hAdd x9) (by decide)) (by decide) rfl ?_
      refine gw_goto (pc := 171) (tgt := 69) F d_Painter_placePairs_171 (by decide) ?_
      refine gw_lvs (lv' := [(0, .ref (ad 6)), (4, .int a4), (5, .int y5), (6, .int y6), (7, .int y7), (8, .int y8), (9, .int (x9 + (1 : Int32)))]) [1, 2, 3, 4, 5, 6, 0] rfl ?_
      exact ih S167 (x9 + (1 : Int32)) (gw_stp h73 hf).1 (gw_stp h73 hf).2.1 (gw_stp0 h73 h0) (cOK_y E167 p163.1 (by omega) (cBb_y h5 p163.2))
def f_Painter_placePairs   (S : gw_S) (a1 : Int32) (a2 : Int32) (a3 : Int32) (a4 : Int32) : Unit × gw_S := (gw_b (f_Bytes_read 7 S (a1 + (1 : Int32))) fun r8 S8 => gw_b (f_Painter_scaled S8 r8 a4) fun r13 S13 => gw_b (f_Math_fdI S13 r13 (2 : Int32)) fun r17 S17 => gw_n (a2 - r17) fun v21 => gw_b (f_Bytes_read 7 S17 (a1 + (2 : Int32))) fun r31 S31 => gw_b (f_Painter_scaled S31 r31 a4) fun r36 S36 => gw_b (f_Math_fdI S36 r36 (2 : Int32)) fun r40 S40 => gw_n (a3 - r40) fun v44 => gw_b (f_Bytes_read 7 S40 (a1 + (3 : Int32))) fun r53 S53 => gw_n (r53 &&& (15 : Int32)) fun v59 => gw_n (a1 + (4 : Int32)) fun v64 => (fl_Painter_placePairs_69 a4 v21 v44 v59 v64 (((v59 : Int32).toInt - ((0 : Int32) : Int32).toInt).toNat + 1) S53 (0 : Int32)))
set_option maxHeartbeats 4000000 in
set_option maxRecDepth 100000 in
theorem c_Painter_placePairs (hJ : gw_J 46 ad)   (S : gw_S) (a1 : Int32) (a2 : Int32) (a3 : Int32) (a4 : Int32) (hf_ok : cOK S) (hx : cZb a2) (hy : cZb a3) (hz : cSh a4) : gw_M l y_Painter_placePairs prog_5_method_5_code 10 none gTs (gw_rm 2) D gCl (gTys cI cB cC cZ) 46 ad (cE ad cI cB cC) gw_rV [.ref (ad 6), .int a1, .int a2, .int a3, .int a4] S (f_Painter_placePairs S a1 a2 a3 a4) := by
  refine gw_start gTs_ok (plainFor_of_name (by decide)) hJ (Nat.le_of_ble_eq_true rfl) (fun X A F => ?_)
  refine gw_lve (lv' := [(0, .ref (ad 6)), (1, .int a1), (2, .int a2), (3, .int a3), (4, .int a4)]) rfl ?_
  unfold f_Painter_placePairs
  refine gw_iload_n (pc := 0) F 2 d_Painter_placePairs_0 rfl rfl ?_
  refine gw_aload_n (pc := 1) F 0 d_Painter_placePairs_1 rfl rfl ?_
  refine cg_Painter_shapes (pc := 2) F tw_68 d_Painter_placePairs_2 ?_
  refine gw_iload_n (pc := 5) F 1 d_Painter_placePairs_5 rfl rfl ?_
  refine gw_iconst (pc := 6) (v := (1 : Int32)) F d_Painter_placePairs_6 (by decide) ?_
  refine gw_iadd (pc := 7) F d_Painter_placePairs_7 ?_
  refine gw_cV (pc := 8) (As := [.int (a1 + (1 : Int32))]) (rest := [.int a2]) F (c_Bytes_read (gw_FJ F) (Or.inr rfl) S (a1 + (1 : Int32))) cw_Bytes_read cv_Bytes_read tw_340 rfl (by decide) (by decide) (chi_Bytes (Or.inr rfl)) (cE_Bytes (Or.inr rfl)) rfl rfl rfl rfl (Nat.le_of_ble_eq_true rfl) d_Painter_placePairs_8 (gw_bI (P := fun r U => cOK U ∧ vp_in r 256) ⟨(po_ok_Bytes_read (Or.inr rfl) S (a1 + (1 : Int32)) hf_ok), (cb_read (Or.inr rfl) S (a1 + (1 : Int32)) hf_ok)⟩ (fun r8 S8 p8 => ?_))
  refine gw_iload (pc := 11) F 4 d_Painter_placePairs_11 rfl ?_
  refine gw_cS (pc := 13) (As := [.int r8, .int a4]) (rest := [.int a2]) F (c_Painter_scaled (gw_FJ F) S8 r8 a4) cw_Painter_scaled cv_Painter_scaled tw_345 rfl (by decide) (by decide) rfl rfl (Nat.le_of_ble_eq_true rfl) d_Painter_placePairs_13 (gw_bI (P := fun r U => cOK U ∧ cSb r) ⟨(po_ok_Painter_scaled S8 r8 a4 p8.1), (cb_scaled S8 r8 a4 p8.2 hz)⟩ (fun r13 S13 p13 => ?_))
  refine gw_iconst (pc := 16) (v := (2 : Int32)) F d_Painter_placePairs_16 (by decide) ?_
  refine gw_cS (pc := 17) (As := [.int r13, .int (2 : Int32)]) (rest := [.int a2]) F (c_Math_fdI (gw_FJ F) S13 r13 (2 : Int32) (by decide)) cw_Math_fdI cv_Math_fdI tw_348 rfl (by decide) (by decide) rfl rfl (Nat.le_of_ble_eq_true rfl) d_Painter_placePairs_17 (gw_bI (P := fun r U => cOK U ∧ cSb r) ⟨(po_ok_Math_fdI S13 r13 (2 : Int32) p13.1 (by decide)), (cb_half S13 r13 p13.2)⟩ (fun r17 S17 p17 => ?_))
  refine gw_isub (pc := 20) F d_Painter_placePairs_20 ?_
  refine gw_nI (fun v21 e21 => ?_)
  refine gw_istore (pc := 21) (lv' := [(5, .int v21), (0, .ref (ad 6)), (1, .int a1), (2, .int a2), (3, .int a3), (4, .int a4)]) F d_Painter_placePairs_21 (by decide) rfl ?_
  refine gw_iload_n (pc := 23) F 4 d_Painter_placePairs_23 rfl rfl ?_
  refine gw_aload_n (pc := 24) F 1 d_Painter_placePairs_24 rfl rfl ?_
  refine cg_Painter_shapes (pc := 25) F tw_68 d_Painter_placePairs_25 ?_
  refine gw_iload_n (pc := 28) F 2 d_Painter_placePairs_28 rfl rfl ?_
  refine gw_iconst (pc := 29) (v := (2 : Int32)) F d_Painter_placePairs_29 (by decide) ?_
  refine gw_iadd (pc := 30) F d_Painter_placePairs_30 ?_
  refine gw_cV (pc := 31) (As := [.int (a1 + (2 : Int32))]) (rest := [.int a3]) F (c_Bytes_read (gw_FJ F) (Or.inr rfl) S17 (a1 + (2 : Int32))) cw_Bytes_read cv_Bytes_read tw_340 rfl (by decide) (by decide) (chi_Bytes (Or.inr rfl)) (cE_Bytes (Or.inr rfl)) rfl rfl rfl rfl (Nat.le_of_ble_eq_true rfl) d_Painter_placePairs_31 (gw_bI (P := fun r U => cOK U ∧ vp_in r 256) ⟨(po_ok_Bytes_read (Or.inr rfl) S17 (a1 + (2 : Int32)) p17.1), (cb_read (Or.inr rfl) S17 (a1 + (2 : Int32)) p17.1)⟩ (fun r31 S31 p31 => ?_))
  refine gw_iload (pc := 34) F 5 d_Painter_placePairs_34 rfl ?_
  refine gw_cS (pc := 36) (As := [.int r31, .int a4]) (rest := [.int a3]) F (c_Painter_scaled (gw_FJ F) S31 r31 a4) cw_Painter_scaled cv_Painter_scaled tw_345 rfl (by decide) (by decide) rfl rfl (Nat.le_of_ble_eq_true rfl) d_Painter_placePairs_36 (gw_bI (P := fun r U => cOK U ∧ cSb r) ⟨(po_ok_Painter_scaled S31 r31 a4 p31.1), (cb_scaled S31 r31 a4 p31.2 hz)⟩ (fun r36 S36 p36 => ?_))
  refine gw_iconst (pc := 39) (v := (2 : Int32)) F d_Painter_placePairs_39 (by decide) ?_
  refine gw_cS (pc := 40) (As := [.int r36, .int (2 : Int32)]) (rest := [.int a3]) F (c_Math_fdI (gw_FJ F) S36 r36 (2 : Int32) (by decide)) cw_Math_fdI cv_Math_fdI tw_348 rfl (by decide) (by decide) rfl rfl (Nat.le_of_ble_eq_true rfl) d_Painter_placePairs_40 (gw_bI (P := fun r U => cOK U ∧ cSb r) ⟨(po_ok_Math_fdI S36 r36 (2 : Int32) p36.1 (by decide)), (cb_half S36 r36 p36.2)⟩ (fun r40 S40 p40 => ?_))
  refine gw_isub (pc := 43) F d_Painter_placePairs_43 ?_
  refine gw_nI (fun v44 e44 => ?_)
  refine gw_istore (pc := 44) (lv' := [(6, .int v44), (5, .int v21), (0, .ref (ad 6)), (1, .int a1), (2, .int a2), (3, .int a3), (4, .int a4)]) F d_Painter_placePairs_44 (by decide) rfl ?_
  refine gw_aload_n (pc := 46) F 2 d_Painter_placePairs_46 rfl rfl ?_
  refine cg_Painter_shapes (pc := 47) F tw_68 d_Painter_placePairs_47 ?_
  refine gw_iload_n (pc := 50) F 3 d_Painter_placePairs_50 rfl rfl ?_
  refine gw_iconst (pc := 51) (v := (3 : Int32)) F d_Painter_placePairs_51 (by decide) ?_
  refine gw_iadd (pc := 52) F d_Painter_placePairs_52 ?_
  refine gw_cV (pc := 53) (As := [.int (a1 + (3 : Int32))]) (rest := []) F (c_Bytes_read (gw_FJ F) (Or.inr rfl) S40 (a1 + (3 : Int32))) cw_Bytes_read cv_Bytes_read tw_340 rfl (by decide) (by decide) (chi_Bytes (Or.inr rfl)) (cE_Bytes (Or.inr rfl)) rfl rfl rfl rfl (Nat.le_of_ble_eq_true rfl) d_Painter_placePairs_53 (gw_bI (P := fun r U => cOK U ∧ vp_in r 256) ⟨(po_ok_Bytes_read (Or.inr rfl) S40 (a1 + (3 : Int32)) p40.1), (cb_read (Or.inr rfl) S40 (a1 + (3 : Int32)) p40.1)⟩ (fun r53 S53 p53 => ?_))
  refine gw_bipush (pc := 56) (v := (15 : Int32)) F d_Painter_placePairs_56 (by decide) ?_
  refine gw_iand (pc := 58) F d_Painter_placePairs_58 ?_
  refine gw_nI (fun v59 e59 => ?_)
  refine gw_istore (pc := 59) (lv' := [(7, .int v59), (6, .int v44), (5, .int v21), (0, .ref (ad 6)), (1, .int a1), (2, .int a2), (3, .int a3), (4, .int a4)]) F d_Painter_placePairs_59 (by decide) rfl ?_
  refine gw_iload_n (pc := 61) F 4 d_Painter_placePairs_61 rfl rfl ?_
  refine gw_iconst (pc := 62) (v := (4 : Int32)) F d_Painter_placePairs_62 (by decide) ?_
  refine gw_iadd (pc := 63) F d_Painter_placePairs_63 ?_
  refine gw_nI (fun v64 e64 => ?_)
  refine gw_istore (pc := 64) (lv' := [(8, .int v64), (7, .int v59), (6, .int v44), (5, .int v21), (0, .ref (ad 6)), (1, .int a1), (2, .int a2), (3, .int a3), (4, .int a4)]) F d_Painter_placePairs_64 (by decide) rfl ?_
  refine gw_iconst (pc := 66) (v := (0 : Int32)) F d_Painter_placePairs_66 (by decide) ?_
  refine gw_istore (pc := 67) (lv' := [(9, .int (0 : Int32)), (8, .int v64), (7, .int v59), (6, .int v44), (5, .int v21), (0, .ref (ad 6)), (1, .int a1), (2, .int a2), (3, .int a3), (4, .int a4)]) F d_Painter_placePairs_67 (by decide) rfl ?_
  refine gw_lvs (lv' := [(0, .ref (ad 6)), (4, .int a4), (5, .int v21), (6, .int v44), (7, .int v59), (8, .int v64), (9, .int (0 : Int32))]) [5, 9, 4, 3, 2, 1, 0] rfl ?_
  exact l_Painter_placePairs_69  F a4 v21 v44 v59 v64 (gw_inE e59 (gw_and15 _)) (cZb_b e21 hx p17.2) (cZb_b e44 hy p40.2) hz (((v59 : Int32).toInt - ((0 : Int32) : Int32).toInt).toNat + 1) S53 (0 : Int32) (Nat.succ_pos _) (gw_ent _) (by decide) p53.1
set_option maxHeartbeats 4000000 in
set_option maxRecDepth 100000 in
theorem pl_ok_Painter_placePairs_69  (a4 : Int32) (y5 : Int32) (y6 : Int32) (y7 : Int32) (y8 : Int32) (hl7 : vp_in y7 16) (h5 : cBb y5) (h6 : cBb y6) (hz : cSh a4) : ∀ (n : Nat) (S : gw_S) (x9 : Int32), 0 < n → (y7 : Int32).toInt - x9.toInt < (n : Int) → 0 ≤ x9.toInt → cOK S → cOK (fl_Painter_placePairs_69 a4 y5 y6 y7 y8 n S x9).2 := by
  intro n
  induction n with
  | zero => intro S x9 hn hf h0 hf_ok; exact absurd hn (Nat.lt_irrefl 0)
  | succ n ih =>
    intro S x9 hn hf h0 hf_ok
    refine po_if (Φ := fun p : Unit × gw_S => cOK p.2) (fun h73 => ?_) (fun h73 => ?_)
    · exact hf_ok
    · refine po_b (Φ := fun p : Unit × gw_S => cOK p.2) (P := fun r U => cOK U ∧ vp_in r 256) ⟨(po_ok_Bytes_read (Or.inr rfl) S (y8 + ((2 : Int32) * x9)) hf_ok), (cb_read (Or.inr rfl) S (y8 + ((2 : Int32) * x9)) hf_ok)⟩ (fun r95 S95 p95 => ?_)
      refine po_b (Φ := fun p : Unit × gw_S => cOK p.2) (P := fun r U => cOK U ∧ cSb r) ⟨(po_ok_Painter_scaled S95 r95 a4 p95.1), (cb_scaled S95 r95 a4 p95.2 hz)⟩ (fun r100 S100 p100 => ?_)
      refine po_n (Φ := fun p : Unit × gw_S => cOK p.2) (fun S104 E104 => ?_)
      refine po_b (Φ := fun p : Unit × gw_S => cOK p.2) (P := fun r U => cOK U ∧ vp_in r 256) ⟨(po_ok_Bytes_read (Or.inr rfl) S104 ((y8 + ((2 : Int32) * x9)) + (1 : Int32)) (cOK_y E104 p100.1 (by omega) (cBb_y h5 p100.2))), (cb_read (Or.inr rfl) S104 ((y8 + ((2 : Int32) * x9)) + (1 : Int32)) (cOK_y E104 p100.1 (by omega) (cBb_y h5 p100.2)))⟩ (fun r126 S126 p126 => ?_)
      refine po_b (Φ := fun p : Unit × gw_S => cOK p.2) (P := fun r U => cOK U ∧ cSb r) ⟨(po_ok_Painter_scaled S126 r126 a4 p126.1), (cb_scaled S126 r126 a4 p126.2 hz)⟩ (fun r131 S131 p131 => ?_)
      refine po_n (Φ := fun p : Unit × gw_S => cOK p.2) (fun S135 E135 => ?_)
      refine po_b (Φ := fun p : Unit × gw_S => cOK p.2) (P := fun r U => cOK U ∧ vp_in r 256) ⟨(po_ok_Bytes_read (Or.inr rfl) S135 ((y8 + ((2 : Int32) * y7)) + x9) (cOK_y E135 p131.1 (by omega) (cBb_y h6 p131.2))), (cb_read (Or.inr rfl) S135 ((y8 + ((2 : Int32) * y7)) + x9) (cOK_y E135 p131.1 (by omega) (cBb_y h6 p131.2)))⟩ (fun r158 S158 p158 => ?_)
      refine po_b (Φ := fun p : Unit × gw_S => cOK p.2) (P := fun r U => cOK U ∧ cSb r) ⟨(po_ok_Painter_scaled S158 r158 a4 p158.1), (cb_scaled S158 r158 a4 p158.2 hz)⟩ (fun r163 S163 p163 => ?_)
      refine po_n (Φ := fun p : Unit × gw_S => cOK p.2) (fun S167 E167 => ?_)
      exact ih S167 (x9 + (1 : Int32)) (gw_stp h73 hf).1 (gw_stp h73 hf).2.1 (gw_stp0 h73 h0) (cOK_y E167 p163.1 (by omega) (cBb_y h5 p163.2))
set_option maxHeartbeats 4000000 in
set_option maxRecDepth 100000 in
theorem po_ok_Painter_placePairs   (S : gw_S) (a1 : Int32) (a2 : Int32) (a3 : Int32) (a4 : Int32) (hf_ok : cOK S) (hx : cZb a2) (hy : cZb a3) (hz : cSh a4) : cOK (f_Painter_placePairs S a1 a2 a3 a4).2 := by
  unfold f_Painter_placePairs
  refine po_b (Φ := fun p : Unit × gw_S => cOK p.2) (P := fun r U => cOK U ∧ vp_in r 256) ⟨(po_ok_Bytes_read (Or.inr rfl) S (a1 + (1 : Int32)) hf_ok), (cb_read (Or.inr rfl) S (a1 + (1 : Int32)) hf_ok)⟩ (fun r8 S8 p8 => ?_)
  refine po_b (Φ := fun p : Unit × gw_S => cOK p.2) (P := fun r U => cOK U ∧ cSb r) ⟨(po_ok_Painter_scaled S8 r8 a4 p8.1), (cb_scaled S8 r8 a4 p8.2 hz)⟩ (fun r13 S13 p13 => ?_)
  refine po_b (Φ := fun p : Unit × gw_S => cOK p.2) (P := fun r U => cOK U ∧ cSb r) ⟨(po_ok_Math_fdI S13 r13 (2 : Int32) p13.1 (by decide)), (cb_half S13 r13 p13.2)⟩ (fun r17 S17 p17 => ?_)
  refine po_n (Φ := fun p : Unit × gw_S => cOK p.2) (fun v21 e21 => ?_)
  refine po_b (Φ := fun p : Unit × gw_S => cOK p.2) (P := fun r U => cOK U ∧ vp_in r 256) ⟨(po_ok_Bytes_read (Or.inr rfl) S17 (a1 + (2 : Int32)) p17.1), (cb_read (Or.inr rfl) S17 (a1 + (2 : Int32)) p17.1)⟩ (fun r31 S31 p31 => ?_)
  refine po_b (Φ := fun p : Unit × gw_S => cOK p.2) (P := fun r U => cOK U ∧ cSb r) ⟨(po_ok_Painter_scaled S31 r31 a4 p31.1), (cb_scaled S31 r31 a4 p31.2 hz)⟩ (fun r36 S36 p36 => ?_)
  refine po_b (Φ := fun p : Unit × gw_S => cOK p.2) (P := fun r U => cOK U ∧ cSb r) ⟨(po_ok_Math_fdI S36 r36 (2 : Int32) p36.1 (by decide)), (cb_half S36 r36 p36.2)⟩ (fun r40 S40 p40 => ?_)
  refine po_n (Φ := fun p : Unit × gw_S => cOK p.2) (fun v44 e44 => ?_)
  refine po_b (Φ := fun p : Unit × gw_S => cOK p.2) (P := fun r U => cOK U ∧ vp_in r 256) ⟨(po_ok_Bytes_read (Or.inr rfl) S40 (a1 + (3 : Int32)) p40.1), (cb_read (Or.inr rfl) S40 (a1 + (3 : Int32)) p40.1)⟩ (fun r53 S53 p53 => ?_)
  refine po_n (Φ := fun p : Unit × gw_S => cOK p.2) (fun v59 e59 => ?_)
  refine po_n (Φ := fun p : Unit × gw_S => cOK p.2) (fun v64 e64 => ?_)
  exact pl_ok_Painter_placePairs_69 a4 v21 v44 v59 v64 (gw_inE e59 (gw_and15 _)) (cZb_b e21 hx p17.2) (cZb_b e44 hy p40.2) hz (((v59 : Int32).toInt - ((0 : Int32) : Int32).toInt).toNat + 1) S53 (0 : Int32) (Nat.succ_pos _) (gw_ent _) (by decide) p53.1
def fl_Painter_drawRows_86   (a1 : Int32) (a3 : Int32) (y4 : Int32) (y5 : Int64) (y7 : Int64) (y10 : Int32) (n : Nat) : gw_S → Int32 → Unit × gw_S := gw_L1 (fun self S x11 => (if y10 ≤ x11 then (((), S)) else (gw_b (f_Painter_edgeAt S (S 12 (a1 : Int32).toNatClampNeg) y5 x11) fun r103 S103 => gw_b (f_Math_max S103 r103 (0 : Int32)) fun r107 S107 => gw_b (f_Painter_edgeAt S107 (S107 11 (a1 : Int32).toNatClampNeg) y7 x11) fun r122 S122 => gw_b (f_Math_min S122 r122 (63 : Int32)) fun r127 S127 => if r127 < r107 then (self S127 (x11 + (1 : Int32))) else (gw_b (f_Pages_startOfRow S127 (y4 + x11)) fun r148 S148 => gw_b (f_Arrays_fill S148 (r148 + r107) ((r148 + r127) + (1 : Int32)) ((a3 : Int32).toInt8.toInt32)) fun _ S174 => gw_n (gw_u S174 6 7 ((S174 6 7) + (1 : Int32))) fun S184 => (self S184 (x11 + (1 : Int32))))))) (fun S _ => ((), S)) n
set_option maxHeartbeats 4000000 in
set_option maxRecDepth 100000 in
theorem l_Painter_drawRows_86 {X : gx_M} {A : Nat → Prop}  (F : gw_F X l prog_5_method_7_code 15 none "StageMachine$Painter" gTs (gw_rm 3) D gCl (gTys cI cB cC cZ) 46 ad A) (a1 : Int32) (a3 : Int32) (y4 : Int32) (y5 : Int64) (y7 : Int64) (y10 : Int32) (hb1 : vp_in a1 15) (he : y10.toInt ≤ 40 - y4.toInt) : ∀ (n : Nat) (S : gw_S) (x11 : Int32), 0 < n → (y10 : Int32).toInt - x11.toInt < (n : Int) → cOK S → 0 ≤ y4.toInt + x11.toInt → gw_V X (gw_P D gCl 46 ad (cE ad cI cB cC)) A 15 gw_rV S 86 [(0, .ref (ad 6)), (1, .int a1), (3, .int a3), (4, .int y4), (5, .long y5), (7, .long y7), (10, .int y10), (11, .int x11)] [] (fl_Painter_drawRows_86 a1 a3 y4 y5 y7 y10 n S x11) := by
  intro n
  induction n with
  | zero => intro S x11 hn hf hf_ok ht; exact absurd hn (Nat.lt_irrefl 0)
  | succ n ih =>
    intro S x11 hn hf hf_ok ht
    refine gw_iload (pc := 86) F 7 d_Painter_drawRows_86 rfl ?_
    refine gw_iload (pc := 88) F 6 d_Painter_drawRows_88 rfl ?_
    refine gw_icmp_geS (pc := 90) (tgt := 193) F d_Painter_drawRows_90 (by decide) (fun h90 => ?_) (fun h90 => ?_)
    · exact gw_vret (pc := 193) F d_Painter_drawRows_193
    · refine gw_aload_n (pc := 93) F 0 d_Painter_drawRows_93 rfl rfl ?_
      refine cg_Painter_leftXs (pc := 94) F tw_74 d_Painter_drawRows_94 ?_
      refine gw_iload_n (pc := 97) F 1 d_Painter_drawRows_97 rfl rfl ?_
      refine cl_LXs (pc := 98) F (gw_in15 hb1) d_Painter_drawRows_98 ?_
      refine gw_lload (pc := 99) F 4 d_Painter_drawRows_99 rfl ?_
      refine gw_iload (pc := 101) F 7 d_Painter_drawRows_101 rfl ?_
      refine gw_cS (pc := 103) (As := [.int (S 12 (a1 : Int32).toNatClampNeg), .long y5, .int x11]) (rest := []) F (c_Painter_edgeAt (gw_FJ F) S (S 12 (a1 : Int32).toNatClampNeg) y5 x11) cw_Painter_edgeAt cv_Painter_edgeAt tw_369 rfl (by decide) (by decide) rfl rfl (Nat.le_of_ble_eq_true rfl) d_Painter_drawRows_103 (gw_bI (P := fun r U => cOK U) (po_ok_Painter_edgeAt S (S 12 (a1 : Int32).toNatClampNeg) y5 x11 hf_ok) (fun r103 S103 p103 => ?_))
      refine gw_iconst (pc := 106) (v := (0 : Int32)) F d_Painter_drawRows_106 (by decide) ?_
      refine gw_cS (pc := 107) (As := [.int r103, .int (0 : Int32)]) (rest := []) F (c_Math_max (gw_FJ F) S103 r103 (0 : Int32)) cw_Math_max cv_Math_max tw_363 rfl (by decide) (by decide) rfl rfl (Nat.le_of_ble_eq_true rfl) d_Painter_drawRows_107 (gw_bI (P := fun r U => cOK U ∧ 0 ≤ r.toInt) ⟨(po_ok_Math_max S103 r103 (0 : Int32) p103), (cb_max0 S103 r103)⟩ (fun r107 S107 p107 => ?_))
      refine gw_istore (pc := 110) (lv' := [(12, .int r107), (0, .ref (ad 6)), (1, .int a1), (3, .int a3), (4, .int y4), (5, .long y5), (7, .long y7), (10, .int y10), (11, .int x11)]) F d_Painter_drawRows_110 (by decide) rfl ?_
      refine gw_aload_n (pc := 112) F 1 d_Painter_drawRows_112 rfl rfl ?_
      refine cg_Painter_rightXs (pc := 113) F tw_73 d_Painter_drawRows_113 ?_
      refine gw_iload_n (pc := 116) F 2 d_Painter_drawRows_116 rfl rfl ?_
      refine cl_RXs (pc := 117) F (gw_in15 hb1) d_Painter_drawRows_117 ?_
      refine gw_lload (pc := 118) F 6 d_Painter_drawRows_118 rfl ?_
      refine gw_iload (pc := 120) F 8 d_Painter_drawRows_120 rfl ?_
      refine gw_cS (pc := 122) (As := [.int (S107 11 (a1 : Int32).toNatClampNeg), .long y7, .int x11]) (rest := []) F (c_Painter_edgeAt (gw_FJ F) S107 (S107 11 (a1 : Int32).toNatClampNeg) y7 x11) cw_Painter_edgeAt cv_Painter_edgeAt tw_369 rfl (by decide) (by decide) rfl rfl (Nat.le_of_ble_eq_true rfl) d_Painter_drawRows_122 (gw_bI (P := fun r U => cOK U) (po_ok_Painter_edgeAt S107 (S107 11 (a1 : Int32).toNatClampNeg) y7 x11 p107.1) (fun r122 S122 p122 => ?_))
      refine gw_bipush (pc := 125) (v := (63 : Int32)) F d_Painter_drawRows_125 (by decide) ?_
      refine gw_cS (pc := 127) (As := [.int r122, .int (63 : Int32)]) (rest := []) F (c_Math_min (gw_FJ F) S122 r122 (63 : Int32)) cw_Math_min cv_Math_min tw_366 rfl (by decide) (by decide) rfl rfl (Nat.le_of_ble_eq_true rfl) d_Painter_drawRows_127 (gw_bI (P := fun r U => cOK U ∧ r.toInt ≤ 63) ⟨(po_ok_Math_min S122 r122 (63 : Int32) p122), (cb_min63 S122 r122)⟩ (fun r127 S127 p127 => ?_))
      refine gw_istore (pc := 130) (lv' := [(13, .int r127), (12, .int r107), (0, .ref (ad 6)), (1, .int a1), (3, .int a3), (4, .int y4), (5, .long y5), (7, .long y7), (10, .int y10), (11, .int x11)]) F d_Painter_drawRows_130 (by decide) rfl ?_
      refine gw_iload (pc := 132) F 1 d_Painter_drawRows_132 rfl ?_
      refine gw_iload (pc := 134) F 0 d_Painter_drawRows_134 rfl ?_
      refine gw_icmp_gtS (pc := 136) (tgt := 187) F d_Painter_drawRows_136 (by decide) (fun h136 => ?_) (fun h136 => ?_)
      · refine gw_iinc (pc := 187) (v := (x11 + (1 : Int32))) (lv' := [(11, .int (x11 + (1 : Int32))), (13, .int r127), (12, .int r107), (0, .ref (ad 6)), (1, .int a1), (3, .int a3), (4, .int y4), (5, .long y5), (7, .long y7), (10, .int y10)]) F 9 d_Painter_drawRows_187 rfl (congrArg (HAdd.hAdd x11) (by decide)) (by decide) rfl ?_
        refine gw_goto (pc := 190) (tgt := 86) F d_Painter_drawRows_190 (by decide) ?_
        refine gw_lvs (lv' := [(0, .ref (ad 6)), (1, .int a1), (3, .int a3), (4, .int y4), (5, .long y5), (7, .long y7), (10, .int y10), (11, .int (x11 + (1 : Int32)))]) [3, 4, 5, 6, 7, 8, 9, 0] rfl ?_
        exact ih S127 (x11 + (1 : Int32)) (gw_stp h90 hf).1 (gw_stp h90 hf).2.1 p127.1 (gw_t1 h90 ht)
      · refine gw_aload_n (pc := 139) F 2 d_Painter_drawRows_139 rfl rfl ?_
        refine cg_Painter_pages (pc := 140) F tw_70 d_Painter_drawRows_140 ?_
        refine gw_iload (pc := 143) F 5 d_Painter_drawRows_143 rfl ?_
        refine gw_iload (pc := 145) F 9 d_Painter_drawRows_145 rfl ?_
        refine gw_iadd (pc := 147) F d_Painter_drawRows_147 ?_
        refine gw_cV (pc := 148) (As := [.int (y4 + x11)]) (rest := []) F (c_Pages_startOfRow (gw_FJ F) S127 (y4 + x11)) cw_Pages_startOfRow cv_Pages_startOfRow tw_373 rfl (by decide) (by decide) (by decide) cE_Pages rfl rfl rfl rfl (Nat.le_of_ble_eq_true rfl) d_Painter_drawRows_148 (gw_bI (P := fun r U => cOK U ∧ r = (S127 9 1) * (2560 : Int32) + (y4 + x11) * (64 : Int32)) ⟨(po_ok_Pages_startOfRow S127 (y4 + x11) p127.1), rfl⟩ (fun r148 S148 p148 => ?_))
        refine gw_istore (pc := 151) (lv' := [(14, .int r148), (13, .int r127), (12, .int r107), (0, .ref (ad 6)), (1, .int a1), (3, .int a3), (4, .int y4), (5, .long y5), (7, .long y7), (10, .int y10), (11, .int x11)]) F d_Painter_drawRows_151 (by decide) rfl ?_
        refine gw_aload_n (pc := 153) F 3 d_Painter_drawRows_153 rfl rfl ?_
        refine cg_Painter_pages (pc := 154) F tw_70 d_Painter_drawRows_154 ?_
        refine cgN_Pages_pixels (pc := 157) F tw_53 d_Painter_drawRows_157 ?_
        refine gw_iload (pc := 160) F 0 d_Painter_drawRows_160 rfl ?_
        refine gw_iload (pc := 162) F 2 d_Painter_drawRows_162 rfl ?_
        refine gw_iadd (pc := 164) F d_Painter_drawRows_164 ?_
        refine gw_iload (pc := 165) F 0 d_Painter_drawRows_165 rfl ?_
        refine gw_iload (pc := 167) F 1 d_Painter_drawRows_167 rfl ?_
        refine gw_iadd (pc := 169) F d_Painter_drawRows_169 ?_
        refine gw_iconst (pc := 170) (v := (1 : Int32)) F d_Painter_drawRows_170 (by decide) ?_
        refine gw_iadd (pc := 171) F d_Painter_drawRows_171 ?_
        refine gw_iload_n (pc := 172) F 5 d_Painter_drawRows_172 rfl rfl ?_
        refine gw_i2b (pc := 173) F d_Painter_drawRows_173 ?_
        refine gw_cS (pc := 174) (As := [.ref (ad 10), .int (r148 + r107), .int ((r148 + r127) + (1 : Int32)), .int ((a3 : Int32).toInt8.toInt32)]) (rest := []) F (c_Arrays_fill (gw_FJ F) S148 (r148 + r107) ((r148 + r127) + (1 : Int32)) ((a3 : Int32).toInt8.toInt32) (dr_fill (((p127.1) 9 1).2.2.1 rfl (Or.inl rfl)) p148.2 ht h90 he p107.2 p127.2 h136).1 (dr_fill (((p127.1) 9 1).2.2.1 rfl (Or.inl rfl)) p148.2 ht h90 he p107.2 p127.2 h136).2.1 (dr_fill (((p127.1) 9 1).2.2.1 rfl (Or.inl rfl)) p148.2 ht h90 he p107.2 p127.2 h136).2.2) cw_Arrays_fill cv_Arrays_fill tw_377 rfl (by decide) (by decide) rfl rfl (Nat.le_of_ble_eq_true rfl) d_Painter_drawRows_174 (gw_bV (P := fun _ U => cOK U) (po_ok_Arrays_fill S148 (r148 + r107) ((r148 + r127) + (1 : Int32)) ((a3 : Int32).toInt8.toInt32) p148.1 (dr_fill (((p127.1) 9 1).2.2.1 rfl (Or.inl rfl)) p148.2 ht h90 he p107.2 p127.2 h136).1 (dr_fill (((p127.1) 9 1).2.2.1 rfl (Or.inl rfl)) p148.2 ht h90 he p107.2 p127.2 h136).2.1 (dr_fill (((p127.1) 9 1).2.2.1 rfl (Or.inl rfl)) p148.2 ht h90 he p107.2 p127.2 h136).2.2) (fun _ S174 p174 => ?_))
        refine gw_aload_n (pc := 177) F 3 d_Painter_drawRows_177 rfl rfl ?_
        refine gw_dup (pc := 178) F d_Painter_drawRows_178 rfl ?_
        refine cg_Painter_rowsInFrame (pc := 179) F tw_80 d_Painter_drawRows_179 ?_
        refine gw_iconst (pc := 182) (v := (1 : Int32)) F d_Painter_drawRows_182 (by decide) ?_
        refine gw_iadd (pc := 183) F d_Painter_drawRows_183 ?_
        refine cp_Painter_rowsInFrame (pc := 184) F tw_80 d_Painter_drawRows_184 ?_
        refine gw_nS (fun S184 E184 => ?_)
        refine gw_iinc (pc := 187) (v := (x11 + (1 : Int32))) (lv' := [(11, .int (x11 + (1 : Int32))), (14, .int r148), (13, .int r127), (12, .int r107), (0, .ref (ad 6)), (1, .int a1), (3, .int a3), (4, .int y4), (5, .long y5), (7, .long y7), (10, .int y10)]) F 10 d_Painter_drawRows_187 rfl (congrArg (HAdd.hAdd x11) (by decide)) (by decide) rfl ?_
        refine gw_goto (pc := 190) (tgt := 86) F d_Painter_drawRows_190 (by decide) ?_
        refine gw_lvs (lv' := [(0, .ref (ad 6)), (1, .int a1), (3, .int a3), (4, .int y4), (5, .long y5), (7, .long y7), (10, .int y10), (11, .int (x11 + (1 : Int32)))]) [4, 5, 6, 7, 8, 9, 10, 0] rfl ?_
        exact ih S184 (x11 + (1 : Int32)) (gw_stp h90 hf).1 (gw_stp h90 hf).2.1 (cOK_o E184 p174 (by omega)) (gw_t1 h90 ht)
def f_Painter_drawRows   (S : gw_S) (a1 : Int32) (a2 : Int32) (a3 : Int32) : Unit × gw_S := (gw_n (S 13 (a1 : Int32).toNatClampNeg) fun v6 => gw_b (f_Math_fdJ S ((65536 : Int64) * ((((S 12 ((a1 + (1 : Int32)) : Int32).toNatClampNeg) - (S 12 (a1 : Int32).toNatClampNeg)) : Int32).toInt64)) ((a2 : Int32).toInt64)) fun r30 S30 => gw_b (f_Math_fdJ S30 ((65536 : Int64) * ((((S30 11 ((a1 + (1 : Int32)) : Int32).toNatClampNeg) - (S30 11 (a1 : Int32).toNatClampNeg)) : Int32).toInt64)) ((a2 : Int32).toInt64)) fun r57 S57 => gw_b (f_Math_max S57 (0 : Int32) (-v6)) fun r66 S66 => gw_b (f_Math_min S66 a2 ((40 : Int32) - v6)) fun r77 S77 => (fl_Painter_drawRows_86 a1 a3 v6 r30 r57 r77 (((r77 : Int32).toInt - (r66 : Int32).toInt).toNat + 1) S77 r66))
set_option maxHeartbeats 4000000 in
set_option maxRecDepth 100000 in
theorem c_Painter_drawRows (hJ : gw_J 46 ad)   (S : gw_S) (a1 : Int32) (a2 : Int32) (a3 : Int32) (hf_ok : cOK S) (hb1 : vp_in a1 15) (hr : 0 < a2.toInt) (hw : a2.toInt ≤ 4194304) : gw_M l y_Painter_drawRows prog_5_method_7_code 15 none gTs (gw_rm 3) D gCl (gTys cI cB cC cZ) 46 ad (cE ad cI cB cC) gw_rV [.ref (ad 6), .int a1, .int a2, .int a3] S (f_Painter_drawRows S a1 a2 a3) := by
  refine gw_start gTs_ok (plainFor_of_name (by decide)) hJ (Nat.le_of_ble_eq_true rfl) (fun X A F => ?_)
  refine gw_lve (lv' := [(0, .ref (ad 6)), (1, .int a1), (2, .int a2), (3, .int a3)]) rfl ?_
  unfold f_Painter_drawRows
  refine gw_aload_n (pc := 0) F 0 d_Painter_drawRows_0 rfl rfl ?_
  refine cg_Painter_pairYs (pc := 1) F tw_75 d_Painter_drawRows_1 ?_
  refine gw_iload_n (pc := 4) F 1 d_Painter_drawRows_4 rfl rfl ?_
  refine cl_PYs (pc := 5) F (gw_in15 hb1) d_Painter_drawRows_5 ?_
  refine gw_nI (fun v6 e6 => ?_)
  refine gw_istore (pc := 6) (lv' := [(4, .int v6), (0, .ref (ad 6)), (1, .int a1), (2, .int a2), (3, .int a3)]) F d_Painter_drawRows_6 (by decide) rfl ?_
  refine gw_ldc2 (pc := 8) (v := (65536 : Int64)) F tw_359 d_Painter_drawRows_8 ?_
  refine gw_aload_n (pc := 11) F 1 d_Painter_drawRows_11 rfl rfl ?_
  refine cg_Painter_leftXs (pc := 12) F tw_74 d_Painter_drawRows_12 ?_
  refine gw_iload_n (pc := 15) F 2 d_Painter_drawRows_15 rfl rfl ?_
  refine gw_iconst (pc := 16) (v := (1 : Int32)) F d_Painter_drawRows_16 (by decide) ?_
  refine gw_iadd (pc := 17) F d_Painter_drawRows_17 ?_
  refine cl_LXs (pc := 18) F (gw_in15s hb1) d_Painter_drawRows_18 ?_
  refine gw_aload_n (pc := 19) F 1 d_Painter_drawRows_19 rfl rfl ?_
  refine cg_Painter_leftXs (pc := 20) F tw_74 d_Painter_drawRows_20 ?_
  refine gw_iload_n (pc := 23) F 2 d_Painter_drawRows_23 rfl rfl ?_
  refine cl_LXs (pc := 24) F (gw_in15 hb1) d_Painter_drawRows_24 ?_
  refine gw_isub (pc := 25) F d_Painter_drawRows_25 ?_
  refine gw_i2l (pc := 26) F d_Painter_drawRows_26 ?_
  refine gw_lmul (pc := 27) F d_Painter_drawRows_27 ?_
  refine gw_iload_n (pc := 28) F 3 d_Painter_drawRows_28 rfl rfl ?_
  refine gw_i2l (pc := 29) F d_Painter_drawRows_29 ?_
  refine gw_cS (pc := 30) (As := [.long ((65536 : Int64) * ((((S 12 ((a1 + (1 : Int32)) : Int32).toNatClampNeg) - (S 12 (a1 : Int32).toNatClampNeg)) : Int32).toInt64)), .long ((a2 : Int32).toInt64)]) (rest := []) F (c_Math_fdJ (gw_FJ F) S ((65536 : Int64) * ((((S 12 ((a1 + (1 : Int32)) : Int32).toNatClampNeg) - (S 12 (a1 : Int32).toNatClampNeg)) : Int32).toInt64)) ((a2 : Int32).toInt64) (gw_nz64 hr)) cw_Math_fdJ cv_Math_fdJ tw_360 rfl (by decide) (by decide) rfl rfl (Nat.le_of_ble_eq_true rfl) d_Painter_drawRows_30 (gw_bJ (P := fun r U => cOK U) (po_ok_Math_fdJ S ((65536 : Int64) * ((((S 12 ((a1 + (1 : Int32)) : Int32).toNatClampNeg) - (S 12 (a1 : Int32).toNatClampNeg)) : Int32).toInt64)) ((a2 : Int32).toInt64) hf_ok (gw_nz64 hr)) (fun r30 S30 p30 => ?_))
  refine gw_lstore (pc := 33) (lv' := [(5, .long r30), (4, .int v6), (0, .ref (ad 6)), (1, .int a1), (2, .int a2), (3, .int a3)]) F d_Painter_drawRows_33 (by decide) rfl ?_
  refine gw_ldc2 (pc := 35) (v := (65536 : Int64)) F tw_359 d_Painter_drawRows_35 ?_
  refine gw_aload_n (pc := 38) F 2 d_Painter_drawRows_38 rfl rfl ?_
  refine cg_Painter_rightXs (pc := 39) F tw_73 d_Painter_drawRows_39 ?_
  refine gw_iload_n (pc := 42) F 3 d_Painter_drawRows_42 rfl rfl ?_
  refine gw_iconst (pc := 43) (v := (1 : Int32)) F d_Painter_drawRows_43 (by decide) ?_
  refine gw_iadd (pc := 44) F d_Painter_drawRows_44 ?_
  refine cl_RXs (pc := 45) F (gw_in15s hb1) d_Painter_drawRows_45 ?_
  refine gw_aload_n (pc := 46) F 2 d_Painter_drawRows_46 rfl rfl ?_
  refine cg_Painter_rightXs (pc := 47) F tw_73 d_Painter_drawRows_47 ?_
  refine gw_iload_n (pc := 50) F 3 d_Painter_drawRows_50 rfl rfl ?_
  refine cl_RXs (pc := 51) F (gw_in15 hb1) d_Painter_drawRows_51 ?_
  refine gw_isub (pc := 52) F d_Painter_drawRows_52 ?_
  refine gw_i2l (pc := 53) F d_Painter_drawRows_53 ?_
  refine gw_lmul (pc := 54) F d_Painter_drawRows_54 ?_
  refine gw_iload_n (pc := 55) F 4 d_Painter_drawRows_55 rfl rfl ?_
  refine gw_i2l (pc := 56) F d_Painter_drawRows_56 ?_
  refine gw_cS (pc := 57) (As := [.long ((65536 : Int64) * ((((S30 11 ((a1 + (1 : Int32)) : Int32).toNatClampNeg) - (S30 11 (a1 : Int32).toNatClampNeg)) : Int32).toInt64)), .long ((a2 : Int32).toInt64)]) (rest := []) F (c_Math_fdJ (gw_FJ F) S30 ((65536 : Int64) * ((((S30 11 ((a1 + (1 : Int32)) : Int32).toNatClampNeg) - (S30 11 (a1 : Int32).toNatClampNeg)) : Int32).toInt64)) ((a2 : Int32).toInt64) (gw_nz64 hr)) cw_Math_fdJ cv_Math_fdJ tw_360 rfl (by decide) (by decide) rfl rfl (Nat.le_of_ble_eq_true rfl) d_Painter_drawRows_57 (gw_bJ (P := fun r U => cOK U) (po_ok_Math_fdJ S30 ((65536 : Int64) * ((((S30 11 ((a1 + (1 : Int32)) : Int32).toNatClampNeg) - (S30 11 (a1 : Int32).toNatClampNeg)) : Int32).toInt64)) ((a2 : Int32).toInt64) p30 (gw_nz64 hr)) (fun r57 S57 p57 => ?_))
  refine gw_lstore (pc := 60) (lv' := [(7, .long r57), (5, .long r30), (4, .int v6), (0, .ref (ad 6)), (1, .int a1), (2, .int a2), (3, .int a3)]) F d_Painter_drawRows_60 (by decide) rfl ?_
  refine gw_iconst (pc := 62) (v := (0 : Int32)) F d_Painter_drawRows_62 (by decide) ?_
  refine gw_iload (pc := 63) F 2 d_Painter_drawRows_63 rfl ?_
  refine gw_ineg (pc := 65) F d_Painter_drawRows_65 ?_
  refine gw_cS (pc := 66) (As := [.int (0 : Int32), .int (-v6)]) (rest := []) F (c_Math_max (gw_FJ F) S57 (0 : Int32) (-v6)) cw_Math_max cv_Math_max tw_363 rfl (by decide) (by decide) rfl rfl (Nat.le_of_ble_eq_true rfl) d_Painter_drawRows_66 (gw_bI (P := fun r U => cOK U ∧ 0 ≤ v6.toInt + r.toInt) ⟨(po_ok_Math_max S57 (0 : Int32) (-v6) p57), (cb_first S57 v6 (cOK_yy hf_ok e6))⟩ (fun r66 S66 p66 => ?_))
  refine gw_istore (pc := 69) (lv' := [(9, .int r66), (7, .long r57), (5, .long r30), (4, .int v6), (0, .ref (ad 6)), (1, .int a1), (2, .int a2), (3, .int a3)]) F d_Painter_drawRows_69 (by decide) rfl ?_
  refine gw_iload_n (pc := 71) F 6 d_Painter_drawRows_71 rfl rfl ?_
  refine gw_bipush (pc := 72) (v := (40 : Int32)) F d_Painter_drawRows_72 (by decide) ?_
  refine gw_iload (pc := 74) F 3 d_Painter_drawRows_74 rfl ?_
  refine gw_isub (pc := 76) F d_Painter_drawRows_76 ?_
  refine gw_cS (pc := 77) (As := [.int a2, .int ((40 : Int32) - v6)]) (rest := []) F (c_Math_min (gw_FJ F) S66 a2 ((40 : Int32) - v6)) cw_Math_min cv_Math_min tw_366 rfl (by decide) (by decide) rfl rfl (Nat.le_of_ble_eq_true rfl) d_Painter_drawRows_77 (gw_bI (P := fun r U => cOK U ∧ r.toInt ≤ 40 - v6.toInt) ⟨(po_ok_Math_min S66 a2 ((40 : Int32) - v6) p66.1), (cb_end S66 a2 v6 (cOK_yy hf_ok e6))⟩ (fun r77 S77 p77 => ?_))
  refine gw_istore (pc := 80) (lv' := [(10, .int r77), (9, .int r66), (7, .long r57), (5, .long r30), (4, .int v6), (0, .ref (ad 6)), (1, .int a1), (2, .int a2), (3, .int a3)]) F d_Painter_drawRows_80 (by decide) rfl ?_
  refine gw_iload (pc := 82) F 1 d_Painter_drawRows_82 rfl ?_
  refine gw_istore (pc := 84) (lv' := [(11, .int r66), (10, .int r77), (9, .int r66), (7, .long r57), (5, .long r30), (4, .int v6), (0, .ref (ad 6)), (1, .int a1), (2, .int a2), (3, .int a3)]) F d_Painter_drawRows_84 (by decide) rfl ?_
  refine gw_lvs (lv' := [(0, .ref (ad 6)), (1, .int a1), (3, .int a3), (4, .int v6), (5, .long r30), (7, .long r57), (10, .int r77), (11, .int r66)]) [6, 7, 9, 5, 4, 3, 1, 0] rfl ?_
  exact l_Painter_drawRows_86  F a1 a3 v6 r30 r57 r77 hb1 p77.2 (((r77 : Int32).toInt - (r66 : Int32).toInt).toNat + 1) S77 r66 (Nat.succ_pos _) (gw_ent _) p77.1 p66.2
set_option maxHeartbeats 4000000 in
set_option maxRecDepth 100000 in
theorem pl_ok_Painter_drawRows_86  (a1 : Int32) (a3 : Int32) (y4 : Int32) (y5 : Int64) (y7 : Int64) (y10 : Int32) (hb1 : vp_in a1 15) (he : y10.toInt ≤ 40 - y4.toInt) : ∀ (n : Nat) (S : gw_S) (x11 : Int32), 0 < n → (y10 : Int32).toInt - x11.toInt < (n : Int) → cOK S → 0 ≤ y4.toInt + x11.toInt → cOK (fl_Painter_drawRows_86 a1 a3 y4 y5 y7 y10 n S x11).2 := by
  intro n
  induction n with
  | zero => intro S x11 hn hf hf_ok ht; exact absurd hn (Nat.lt_irrefl 0)
  | succ n ih =>
    intro S x11 hn hf hf_ok ht
    refine po_if (Φ := fun p : Unit × gw_S => cOK p.2) (fun h90 => ?_) (fun h90 => ?_)
    · exact hf_ok
    · refine po_b (Φ := fun p : Unit × gw_S => cOK p.2) (P := fun r U => cOK U) (po_ok_Painter_edgeAt S (S 12 (a1 : Int32).toNatClampNeg) y5 x11 hf_ok) (fun r103 S103 p103 => ?_)
      refine po_b (Φ := fun p : Unit × gw_S => cOK p.2) (P := fun r U => cOK U ∧ 0 ≤ r.toInt) ⟨(po_ok_Math_max S103 r103 (0 : Int32) p103), (cb_max0 S103 r103)⟩ (fun r107 S107 p107 => ?_)
      refine po_b (Φ := fun p : Unit × gw_S => cOK p.2) (P := fun r U => cOK U) (po_ok_Painter_edgeAt S107 (S107 11 (a1 : Int32).toNatClampNeg) y7 x11 p107.1) (fun r122 S122 p122 => ?_)
      refine po_b (Φ := fun p : Unit × gw_S => cOK p.2) (P := fun r U => cOK U ∧ r.toInt ≤ 63) ⟨(po_ok_Math_min S122 r122 (63 : Int32) p122), (cb_min63 S122 r122)⟩ (fun r127 S127 p127 => ?_)
      refine po_if (Φ := fun p : Unit × gw_S => cOK p.2) (fun h136 => ?_) (fun h136 => ?_)
      · exact ih S127 (x11 + (1 : Int32)) (gw_stp h90 hf).1 (gw_stp h90 hf).2.1 p127.1 (gw_t1 h90 ht)
      · refine po_b (Φ := fun p : Unit × gw_S => cOK p.2) (P := fun r U => cOK U ∧ r = (S127 9 1) * (2560 : Int32) + (y4 + x11) * (64 : Int32)) ⟨(po_ok_Pages_startOfRow S127 (y4 + x11) p127.1), rfl⟩ (fun r148 S148 p148 => ?_)
        refine po_b (Φ := fun p : Unit × gw_S => cOK p.2) (P := fun _ U => cOK U) (po_ok_Arrays_fill S148 (r148 + r107) ((r148 + r127) + (1 : Int32)) ((a3 : Int32).toInt8.toInt32) p148.1 (dr_fill (((p127.1) 9 1).2.2.1 rfl (Or.inl rfl)) p148.2 ht h90 he p107.2 p127.2 h136).1 (dr_fill (((p127.1) 9 1).2.2.1 rfl (Or.inl rfl)) p148.2 ht h90 he p107.2 p127.2 h136).2.1 (dr_fill (((p127.1) 9 1).2.2.1 rfl (Or.inl rfl)) p148.2 ht h90 he p107.2 p127.2 h136).2.2) (fun _ S174 p174 => ?_)
        refine po_n (Φ := fun p : Unit × gw_S => cOK p.2) (fun S184 E184 => ?_)
        exact ih S184 (x11 + (1 : Int32)) (gw_stp h90 hf).1 (gw_stp h90 hf).2.1 (cOK_o E184 p174 (by omega)) (gw_t1 h90 ht)
set_option maxHeartbeats 4000000 in
set_option maxRecDepth 100000 in
theorem po_ok_Painter_drawRows   (S : gw_S) (a1 : Int32) (a2 : Int32) (a3 : Int32) (hf_ok : cOK S) (hb1 : vp_in a1 15) (hr : 0 < a2.toInt) (hw : a2.toInt ≤ 4194304) : cOK (f_Painter_drawRows S a1 a2 a3).2 := by
  unfold f_Painter_drawRows
  refine po_n (Φ := fun p : Unit × gw_S => cOK p.2) (fun v6 e6 => ?_)
  refine po_b (Φ := fun p : Unit × gw_S => cOK p.2) (P := fun r U => cOK U) (po_ok_Math_fdJ S ((65536 : Int64) * ((((S 12 ((a1 + (1 : Int32)) : Int32).toNatClampNeg) - (S 12 (a1 : Int32).toNatClampNeg)) : Int32).toInt64)) ((a2 : Int32).toInt64) hf_ok (gw_nz64 hr)) (fun r30 S30 p30 => ?_)
  refine po_b (Φ := fun p : Unit × gw_S => cOK p.2) (P := fun r U => cOK U) (po_ok_Math_fdJ S30 ((65536 : Int64) * ((((S30 11 ((a1 + (1 : Int32)) : Int32).toNatClampNeg) - (S30 11 (a1 : Int32).toNatClampNeg)) : Int32).toInt64)) ((a2 : Int32).toInt64) p30 (gw_nz64 hr)) (fun r57 S57 p57 => ?_)
  refine po_b (Φ := fun p : Unit × gw_S => cOK p.2) (P := fun r U => cOK U ∧ 0 ≤ v6.toInt + r.toInt) ⟨(po_ok_Math_max S57 (0 : Int32) (-v6) p57), (cb_first S57 v6 (cOK_yy hf_ok e6))⟩ (fun r66 S66 p66 => ?_)
  refine po_b (Φ := fun p : Unit × gw_S => cOK p.2) (P := fun r U => cOK U ∧ r.toInt ≤ 40 - v6.toInt) ⟨(po_ok_Math_min S66 a2 ((40 : Int32) - v6) p66.1), (cb_end S66 a2 v6 (cOK_yy hf_ok e6))⟩ (fun r77 S77 p77 => ?_)
  exact pl_ok_Painter_drawRows_86 a1 a3 v6 r30 r57 r77 hb1 p77.2 (((r77 : Int32).toInt - (r66 : Int32).toInt).toNat + 1) S77 r66 (Nat.succ_pos _) (gw_ent _) p77.1 p66.2
def fl_Painter_drawPolygon_2   (a1 : Int32) (a2 : Int32) (n : Nat) : gw_S → Int32 → Unit × gw_S := gw_L1 (fun self S x3 => (if a1 ≤ (x3 + (1 : Int32)) then (((), S)) else (gw_n ((S 13 ((x3 + (1 : Int32)) : Int32).toNatClampNeg) - (S 13 (x3 : Int32).toNatClampNeg)) fun v24 => if v24 ≤ 0 then (self S (x3 + (1 : Int32))) else (gw_b (f_Painter_drawRows S x3 v24 a2) fun _ S36 => (self S36 (x3 + (1 : Int32))))))) (fun S _ => ((), S)) n
set_option maxHeartbeats 4000000 in
set_option maxRecDepth 100000 in
theorem l_Painter_drawPolygon_2 {X : gx_M} {A : Nat → Prop}  (F : gw_F X l prog_5_method_6_code 5 none "StageMachine$Painter" gTs (gw_rm 4) D gCl (gTys cI cB cC cZ) 46 ad A) (a1 : Int32) (a2 : Int32) (hb1 : vp_in a1 16) : ∀ (n : Nat) (S : gw_S) (x3 : Int32), 0 < n → (a1 : Int32).toInt - (x3 + (1 : Int32)).toInt < (n : Int) → (x3 + (1 : Int32)).toInt = x3.toInt + 1 → 0 ≤ x3.toInt → cOK S → gw_V X (gw_P D gCl 46 ad (cE ad cI cB cC)) A 5 gw_rV S 2 [(0, .ref (ad 6)), (1, .int a1), (2, .int a2), (3, .int x3)] [] (fl_Painter_drawPolygon_2 a1 a2 n S x3) := by
  intro n
  induction n with
  | zero => intro S x3 hn hf h1 h0 hf_ok; exact absurd hn (Nat.lt_irrefl 0)
  | succ n ih =>
    intro S x3 hn hf h1 h0 hf_ok
    refine gw_iload_n (pc := 2) F 3 d_Painter_drawPolygon_2 rfl rfl ?_
    refine gw_iconst (pc := 3) (v := (1 : Int32)) F d_Painter_drawPolygon_3 (by decide) ?_
    refine gw_iadd (pc := 4) F d_Painter_drawPolygon_4 ?_
    refine gw_iload_n (pc := 5) F 1 d_Painter_drawPolygon_5 rfl rfl ?_
    refine gw_icmp_geS (pc := 6) (tgt := 45) F d_Painter_drawPolygon_6 (by decide) (fun h6 => ?_) (fun h6 => ?_)
    · exact gw_vret (pc := 45) F d_Painter_drawPolygon_45
    · refine gw_aload_n (pc := 9) F 0 d_Painter_drawPolygon_9 rfl rfl ?_
      refine cg_Painter_pairYs (pc := 10) F tw_75 d_Painter_drawPolygon_10 ?_
      refine gw_iload_n (pc := 13) F 3 d_Painter_drawPolygon_13 rfl rfl ?_
      refine gw_iconst (pc := 14) (v := (1 : Int32)) F d_Painter_drawPolygon_14 (by decide) ?_
      refine gw_iadd (pc := 15) F d_Painter_drawPolygon_15 ?_
      refine cl_PYs (pc := 16) F (gw_inL hb1 h6 (gw_up1 h1 h0)) d_Painter_drawPolygon_16 ?_
      refine gw_aload_n (pc := 17) F 0 d_Painter_drawPolygon_17 rfl rfl ?_
      refine cg_Painter_pairYs (pc := 18) F tw_75 d_Painter_drawPolygon_18 ?_
      refine gw_iload_n (pc := 21) F 3 d_Painter_drawPolygon_21 rfl rfl ?_
      refine cl_PYs (pc := 22) F (gw_in15 (gw_inP hb1 h6 h1 h0)) d_Painter_drawPolygon_22 ?_
      refine gw_isub (pc := 23) F d_Painter_drawPolygon_23 ?_
      refine gw_nI (fun v24 e24 => ?_)
      refine gw_istore (pc := 24) (lv' := [(4, .int v24), (0, .ref (ad 6)), (1, .int a1), (2, .int a2), (3, .int x3)]) F d_Painter_drawPolygon_24 (by decide) rfl ?_
      refine gw_iload (pc := 26) F 0 d_Painter_drawPolygon_26 rfl ?_
      refine gw_if_leS (pc := 28) (tgt := 39) F d_Painter_drawPolygon_28 (by decide) (fun h28 => ?_) (fun h28 => ?_)
      · refine gw_iinc (pc := 39) (v := (x3 + (1 : Int32))) (lv' := [(3, .int (x3 + (1 : Int32))), (4, .int v24), (0, .ref (ad 6)), (1, .int a1), (2, .int a2)]) F 4 d_Painter_drawPolygon_39 rfl (congrArg (HAdd.hAdd x3) (by decide)) (by decide) rfl ?_
        refine gw_goto (pc := 42) (tgt := 2) F d_Painter_drawPolygon_42 (by decide) ?_
        refine gw_lvs (lv' := [(0, .ref (ad 6)), (1, .int a1), (2, .int a2), (3, .int (x3 + (1 : Int32)))]) [2, 3, 4, 0] rfl ?_
        exact ih S (x3 + (1 : Int32)) (gw_stp h6 hf).1 (gw_stp h6 hf).2.1 (gw_lt1 h6) (gw_up1 h1 h0) hf_ok
      · refine gw_aload_n (pc := 31) F 1 d_Painter_drawPolygon_31 rfl rfl ?_
        refine gw_iload_n (pc := 32) F 4 d_Painter_drawPolygon_32 rfl rfl ?_
        refine gw_iload (pc := 33) F 0 d_Painter_drawPolygon_33 rfl ?_
        refine gw_iload_n (pc := 35) F 3 d_Painter_drawPolygon_35 rfl rfl ?_
        refine gw_cV (pc := 36) (As := [.int x3, .int v24, .int a2]) (rest := []) F (c_Painter_drawRows (gw_FJ F) S x3 v24 a2 hf_ok (gw_inP hb1 h6 h1 h0) (gw_posI h28) (cRw e24 hf_ok)) cw_Painter_drawRows cv_Painter_drawRows tw_355 rfl (by decide) (by decide) (by decide) cE_Painter rfl rfl rfl rfl (Nat.le_of_ble_eq_true rfl) d_Painter_drawPolygon_36 (gw_bV (P := fun _ U => cOK U) (po_ok_Painter_drawRows S x3 v24 a2 hf_ok (gw_inP hb1 h6 h1 h0) (gw_posI h28) (cRw e24 hf_ok)) (fun _ S36 p36 => ?_))
        refine gw_iinc (pc := 39) (v := (x3 + (1 : Int32))) (lv' := [(3, .int (x3 + (1 : Int32))), (4, .int v24), (0, .ref (ad 6)), (1, .int a1), (2, .int a2)]) F 4 d_Painter_drawPolygon_39 rfl (congrArg (HAdd.hAdd x3) (by decide)) (by decide) rfl ?_
        refine gw_goto (pc := 42) (tgt := 2) F d_Painter_drawPolygon_42 (by decide) ?_
        refine gw_lvs (lv' := [(0, .ref (ad 6)), (1, .int a1), (2, .int a2), (3, .int (x3 + (1 : Int32)))]) [2, 3, 4, 0] rfl ?_
        exact ih S36 (x3 + (1 : Int32)) (gw_stp h6 hf).1 (gw_stp h6 hf).2.1 (gw_lt1 h6) (gw_up1 h1 h0) p36
def f_Painter_drawPolygon   (S : gw_S) (a1 : Int32) (a2 : Int32) : Unit × gw_S := (fl_Painter_drawPolygon_2 a1 a2 (((a1 : Int32).toInt - (((0 : Int32) : Int32) + (1 : Int32)).toInt).toNat + 1) S (0 : Int32))
set_option maxHeartbeats 4000000 in
set_option maxRecDepth 100000 in
theorem c_Painter_drawPolygon (hJ : gw_J 46 ad)   (S : gw_S) (a1 : Int32) (a2 : Int32) (hf_ok : cOK S) (hb1 : vp_in a1 16) : gw_M l y_Painter_drawPolygon prog_5_method_6_code 5 none gTs (gw_rm 4) D gCl (gTys cI cB cC cZ) 46 ad (cE ad cI cB cC) gw_rV [.ref (ad 6), .int a1, .int a2] S (f_Painter_drawPolygon S a1 a2) := by
  refine gw_start gTs_ok (plainFor_of_name (by decide)) hJ (Nat.le_of_ble_eq_true rfl) (fun X A F => ?_)
  refine gw_lve (lv' := [(0, .ref (ad 6)), (1, .int a1), (2, .int a2)]) rfl ?_
  unfold f_Painter_drawPolygon
  refine gw_iconst (pc := 0) (v := (0 : Int32)) F d_Painter_drawPolygon_0 (by decide) ?_
  refine gw_istore_n (pc := 1) (lv' := [(3, .int (0 : Int32)), (0, .ref (ad 6)), (1, .int a1), (2, .int a2)]) F d_Painter_drawPolygon_1 rfl (by decide) rfl ?_
  refine gw_lvs (lv' := [(0, .ref (ad 6)), (1, .int a1), (2, .int a2), (3, .int (0 : Int32))]) [1, 2, 3, 0] rfl ?_
  exact l_Painter_drawPolygon_2  F a1 a2 hb1 (((a1 : Int32).toInt - (((0 : Int32) : Int32) + (1 : Int32)).toInt).toNat + 1) S (0 : Int32) (Nat.succ_pos _) (gw_ent _) (by decide) (by decide) hf_ok
set_option maxHeartbeats 4000000 in
set_option maxRecDepth 100000 in
theorem pl_ok_Painter_drawPolygon_2  (a1 : Int32) (a2 : Int32) (hb1 : vp_in a1 16) : ∀ (n : Nat) (S : gw_S) (x3 : Int32), 0 < n → (a1 : Int32).toInt - (x3 + (1 : Int32)).toInt < (n : Int) → (x3 + (1 : Int32)).toInt = x3.toInt + 1 → 0 ≤ x3.toInt → cOK S → cOK (fl_Painter_drawPolygon_2 a1 a2 n S x3).2 := by
  intro n
  induction n with
  | zero => intro S x3 hn hf h1 h0 hf_ok; exact absurd hn (Nat.lt_irrefl 0)
  | succ n ih =>
    intro S x3 hn hf h1 h0 hf_ok
    refine po_if (Φ := fun p : Unit × gw_S => cOK p.2) (fun h6 => ?_) (fun h6 => ?_)
    · exact hf_ok
    · refine po_n (Φ := fun p : Unit × gw_S => cOK p.2) (fun v24 e24 => ?_)
      refine po_if (Φ := fun p : Unit × gw_S => cOK p.2) (fun h28 => ?_) (fun h28 => ?_)
      · exact ih S (x3 + (1 : Int32)) (gw_stp h6 hf).1 (gw_stp h6 hf).2.1 (gw_lt1 h6) (gw_up1 h1 h0) hf_ok
      · refine po_b (Φ := fun p : Unit × gw_S => cOK p.2) (P := fun _ U => cOK U) (po_ok_Painter_drawRows S x3 v24 a2 hf_ok (gw_inP hb1 h6 h1 h0) (gw_posI h28) (cRw e24 hf_ok)) (fun _ S36 p36 => ?_)
        exact ih S36 (x3 + (1 : Int32)) (gw_stp h6 hf).1 (gw_stp h6 hf).2.1 (gw_lt1 h6) (gw_up1 h1 h0) p36
set_option maxHeartbeats 4000000 in
set_option maxRecDepth 100000 in
theorem po_ok_Painter_drawPolygon   (S : gw_S) (a1 : Int32) (a2 : Int32) (hf_ok : cOK S) (hb1 : vp_in a1 16) : cOK (f_Painter_drawPolygon S a1 a2).2 := by
  unfold f_Painter_drawPolygon
  exact pl_ok_Painter_drawPolygon_2 a1 a2 hb1 (((a1 : Int32).toInt - (((0 : Int32) : Int32) + (1 : Int32)).toInt).toNat + 1) S (0 : Int32) (Nat.succ_pos _) (gw_ent _) (by decide) (by decide) hf_ok
def fl_Painter_drawGroup_61  (sh : gw_S → Int32 → Int32 → Int32 → Int32 → Int32 → Int32 → Unit × gw_S) (a4 : Int32) (a5 : Int32) (a6 : Int32) (y7 : Int32) (y8 : Int32) (y9 : Int32) (n : Nat) : gw_S → Int32 → Int32 → Unit × gw_S := gw_L2 (fun self S x10 x11 => (if y9 ≤ x11 then (((), S)) else (gw_b (f_Bytes_readPair 7 S x10) fun r74 S74 => gw_b (f_Bytes_read 7 S74 (x10 + (2 : Int32))) fun r89 S89 => gw_b (f_Painter_scaled S89 r89 a4) fun r94 S94 => gw_n (y7 + r94) fun v98 => gw_b (f_Bytes_read 7 S94 (x10 + (3 : Int32))) fun r110 S110 => gw_b (f_Painter_scaled S110 r110 a4) fun r115 S115 => gw_n (y8 + r115) fun v119 => if (r74 &&& (32768 : Int32)) = 0 then (gw_b (sh S115 (r74 &&& (1023 : Int32)) v98 v119 a4 a5 (a6 + (1 : Int32))) fun _ S181 => gw_n (x10 + (4 : Int32)) fun v197 => (self S181 v197 (x11 + (1 : Int32)))) else (gw_b (f_Bytes_read 7 S115 (x10 + (4 : Int32))) fun r149 S149 => gw_n (r149 &&& (15 : Int32)) fun v160 => gw_b (sh S149 (r74 &&& (1023 : Int32)) v98 v119 a4 v160 (a6 + (1 : Int32))) fun _ S181 => gw_n (x10 + (5 : Int32)) fun v197 => (self S181 v197 (x11 + (1 : Int32))))))) (fun S _ _ => ((), S)) n
set_option maxHeartbeats 4000000 in
set_option maxRecDepth 100000 in
theorem l_Painter_drawGroup_61 {X : gx_M} {A : Nat → Prop} {K dS : Nat} {sh : gw_S → Int32 → Int32 → Int32 → Int32 → Int32 → Int32 → Unit × gw_S} (hK : K ≤ 5) (hdS : 4 ≤ dS) (hsh : ∀ (S : gw_S) (b1 b2 b3 b4 b5 b6 : Int32), cOK S → cXb b6 b2 → cXb b6 b3 → cSh b4 → b6.toInt + ((K - 1 : Nat) : Int) = 5 → gw_M l y_Painter_drawShape prog_5_method_3_code 8 none gTs (gw_rm dS) D gCl (gTys cI cB cC cZ) 46 ad (cE ad cI cB cC) gw_rV [.ref (ad 6), .int b1, .int b2, .int b3, .int b4, .int b5, .int b6] S (sh S b1 b2 b3 b4 b5 b6)) (hso : ∀ (S : gw_S) (b1 b2 b3 b4 b5 b6 : Int32), cOK S → cXb b6 b2 → cXb b6 b3 → cSh b4 → b6.toInt + ((K - 1 : Nat) : Int) = 5 → cOK (sh S b1 b2 b3 b4 b5 b6).2) (F : gw_F X l prog_5_method_4_code 17 none "StageMachine$Painter" gTs (gw_rm (dS + 1)) D gCl (gTys cI cB cC cZ) 46 ad A) (a4 : Int32) (a5 : Int32) (a6 : Int32) (y7 : Int32) (y8 : Int32) (y9 : Int32) (h7x : cGb a6 y7) (h8x : cGb a6 y8) (hz : cSh a4) (h6 : a6.toInt + (K : Int) = 5) (h4 : a6.toInt ≤ 4) : ∀ (n : Nat) (S : gw_S) (x10 x11 : Int32), 0 < n → (y9 : Int32).toInt - x11.toInt < (n : Int) → cOK S → gw_V X (gw_P D gCl 46 ad (cE ad cI cB cC)) A 17 gw_rV S 61 [(0, .ref (ad 6)), (4, .int a4), (5, .int a5), (6, .int a6), (7, .int y7), (8, .int y8), (9, .int y9), (10, .int x10), (11, .int x11)] [] (fl_Painter_drawGroup_61 sh a4 a5 a6 y7 y8 y9 n S x10 x11) := by
  intro n
  induction n with
  | zero => intro S x10 x11 hn hf hf_ok; exact absurd hn (Nat.lt_irrefl 0)
  | succ n ih =>
    intro S x10 x11 hn hf hf_ok
    refine gw_iload (pc := 61) F 8 d_Painter_drawGroup_61 rfl ?_
    refine gw_iload (pc := 63) F 6 d_Painter_drawGroup_63 rfl ?_
    refine gw_icmp_geS (pc := 65) (tgt := 205) F d_Painter_drawGroup_65 (by decide) (fun h65 => ?_) (fun h65 => ?_)
    · exact gw_vret (pc := 205) F d_Painter_drawGroup_205
    · refine gw_aload_n (pc := 68) F 0 d_Painter_drawGroup_68 rfl rfl ?_
      refine cg_Painter_shapes (pc := 69) F tw_68 d_Painter_drawGroup_69 ?_
      refine gw_iload (pc := 72) F 7 d_Painter_drawGroup_72 rfl ?_
      refine gw_cV (pc := 74) (As := [.int x10]) (rest := []) F (c_Bytes_readPair (gw_FJ F) (Or.inr rfl) S x10) cw_Bytes_readPair cv_Bytes_readPair tw_382 rfl (by omega) (by decide) (chi_Bytes (Or.inr rfl)) (cE_Bytes (Or.inr rfl)) rfl rfl rfl rfl (Nat.le_of_ble_eq_true rfl) d_Painter_drawGroup_74 (gw_bI (P := fun r U => cOK U) (po_ok_Bytes_readPair (Or.inr rfl) S x10 hf_ok) (fun r74 S74 p74 => ?_))
      refine gw_istore (pc := 77) (lv' := [(12, .int r74), (0, .ref (ad 6)), (4, .int a4), (5, .int a5), (6, .int a6), (7, .int y7), (8, .int y8), (9, .int y9), (10, .int x10), (11, .int x11)]) F d_Painter_drawGroup_77 (by decide) rfl ?_
      refine gw_iload (pc := 79) F 5 d_Painter_drawGroup_79 rfl ?_
      refine gw_aload_n (pc := 81) F 1 d_Painter_drawGroup_81 rfl rfl ?_
      refine cg_Painter_shapes (pc := 82) F tw_68 d_Painter_drawGroup_82 ?_
      refine gw_iload (pc := 85) F 8 d_Painter_drawGroup_85 rfl ?_
      refine gw_iconst (pc := 87) (v := (2 : Int32)) F d_Painter_drawGroup_87 (by decide) ?_
      refine gw_iadd (pc := 88) F d_Painter_drawGroup_88 ?_
      refine gw_cV (pc := 89) (As := [.int (x10 + (2 : Int32))]) (rest := [.int y7]) F (c_Bytes_read (gw_FJ F) (Or.inr rfl) S74 (x10 + (2 : Int32))) cw_Bytes_read cv_Bytes_read tw_340 rfl (by omega) (by decide) (chi_Bytes (Or.inr rfl)) (cE_Bytes (Or.inr rfl)) rfl rfl rfl rfl (Nat.le_of_ble_eq_true rfl) d_Painter_drawGroup_89 (gw_bI (P := fun r U => cOK U ∧ vp_in r 256) ⟨(po_ok_Bytes_read (Or.inr rfl) S74 (x10 + (2 : Int32)) p74), (cb_read (Or.inr rfl) S74 (x10 + (2 : Int32)) p74)⟩ (fun r89 S89 p89 => ?_))
      refine gw_iload (pc := 92) F 2 d_Painter_drawGroup_92 rfl ?_
      refine gw_cS (pc := 94) (As := [.int r89, .int a4]) (rest := [.int y7]) F (c_Painter_scaled (gw_FJ F) S89 r89 a4) cw_Painter_scaled cv_Painter_scaled tw_345 rfl (by omega) (by decide) rfl rfl (Nat.le_of_ble_eq_true rfl) d_Painter_drawGroup_94 (gw_bI (P := fun r U => cOK U ∧ cSb r) ⟨(po_ok_Painter_scaled S89 r89 a4 p89.1), (cb_scaled S89 r89 a4 p89.2 hz)⟩ (fun r94 S94 p94 => ?_))
      refine gw_iadd (pc := 97) F d_Painter_drawGroup_97 ?_
      refine gw_nI (fun v98 e98 => ?_)
      refine gw_istore (pc := 98) (lv' := [(13, .int v98), (12, .int r74), (0, .ref (ad 6)), (4, .int a4), (5, .int a5), (6, .int a6), (7, .int y7), (8, .int y8), (9, .int y9), (10, .int x10), (11, .int x11)]) F d_Painter_drawGroup_98 (by decide) rfl ?_
      refine gw_iload (pc := 100) F 7 d_Painter_drawGroup_100 rfl ?_
      refine gw_aload_n (pc := 102) F 2 d_Painter_drawGroup_102 rfl rfl ?_
      refine cg_Painter_shapes (pc := 103) F tw_68 d_Painter_drawGroup_103 ?_
      refine gw_iload (pc := 106) F 9 d_Painter_drawGroup_106 rfl ?_
      refine gw_iconst (pc := 108) (v := (3 : Int32)) F d_Painter_drawGroup_108 (by decide) ?_
      refine gw_iadd (pc := 109) F d_Painter_drawGroup_109 ?_
      refine gw_cV (pc := 110) (As := [.int (x10 + (3 : Int32))]) (rest := [.int y8]) F (c_Bytes_read (gw_FJ F) (Or.inr rfl) S94 (x10 + (3 : Int32))) cw_Bytes_read cv_Bytes_read tw_340 rfl (by omega) (by decide) (chi_Bytes (Or.inr rfl)) (cE_Bytes (Or.inr rfl)) rfl rfl rfl rfl (Nat.le_of_ble_eq_true rfl) d_Painter_drawGroup_110 (gw_bI (P := fun r U => cOK U ∧ vp_in r 256) ⟨(po_ok_Bytes_read (Or.inr rfl) S94 (x10 + (3 : Int32)) p94.1), (cb_read (Or.inr rfl) S94 (x10 + (3 : Int32)) p94.1)⟩ (fun r110 S110 p110 => ?_))
      refine gw_iload (pc := 113) F 3 d_Painter_drawGroup_113 rfl ?_
      refine gw_cS (pc := 115) (As := [.int r110, .int a4]) (rest := [.int y8]) F (c_Painter_scaled (gw_FJ F) S110 r110 a4) cw_Painter_scaled cv_Painter_scaled tw_345 rfl (by omega) (by decide) rfl rfl (Nat.le_of_ble_eq_true rfl) d_Painter_drawGroup_115 (gw_bI (P := fun r U => cOK U ∧ cSb r) ⟨(po_ok_Painter_scaled S110 r110 a4 p110.1), (cb_scaled S110 r110 a4 p110.2 hz)⟩ (fun r115 S115 p115 => ?_))
      refine gw_iadd (pc := 118) F d_Painter_drawGroup_118 ?_
      refine gw_nI (fun v119 e119 => ?_)
      refine gw_istore (pc := 119) (lv' := [(14, .int v119), (13, .int v98), (12, .int r74), (0, .ref (ad 6)), (4, .int a4), (5, .int a5), (6, .int a6), (7, .int y7), (8, .int y8), (9, .int y9), (10, .int x10), (11, .int x11)]) F d_Painter_drawGroup_119 (by decide) rfl ?_
      refine gw_iload (pc := 121) F 2 d_Painter_drawGroup_121 rfl ?_
      refine gw_ldc (pc := 123) (v := (32768 : Int32)) F tw_383 d_Painter_drawGroup_123 ?_
      refine gw_iand (pc := 125) F d_Painter_drawGroup_125 ?_
      refine gw_if_eqS (pc := 126) (tgt := 133) F d_Painter_drawGroup_126 (by decide) (fun h126 => ?_) (fun h126 => ?_)
      · refine gw_iconst (pc := 133) (v := (0 : Int32)) F d_Painter_drawGroup_133 (by decide) ?_
        refine gw_istore (pc := 134) (lv' := [(15, .int (0 : Int32)), (14, .int v119), (13, .int v98), (12, .int r74), (0, .ref (ad 6)), (4, .int a4), (5, .int a5), (6, .int a6), (7, .int y7), (8, .int y8), (9, .int y9), (10, .int x10), (11, .int x11)]) F d_Painter_drawGroup_134 (by decide) rfl ?_
        refine gw_iload (pc := 136) F 0 d_Painter_drawGroup_136 rfl ?_
        refine gw_if_eqT (pc := 138) (tgt := 158) F d_Painter_drawGroup_138 (by decide) (by decide) ?_
        refine gw_iload (pc := 158) F 6 d_Painter_drawGroup_158 rfl ?_
        refine gw_istore (pc := 160) (lv' := [(16, .int a5), (15, .int (0 : Int32)), (14, .int v119), (13, .int v98), (12, .int r74), (0, .ref (ad 6)), (4, .int a4), (5, .int a5), (6, .int a6), (7, .int y7), (8, .int y8), (9, .int y9), (10, .int x10), (11, .int x11)]) F d_Painter_drawGroup_160 (by decide) rfl ?_
        refine gw_aload_n (pc := 162) F 5 d_Painter_drawGroup_162 rfl rfl ?_
        refine gw_iload (pc := 163) F 4 d_Painter_drawGroup_163 rfl ?_
        refine gw_sipush (pc := 165) (v := (1023 : Int32)) F d_Painter_drawGroup_165 (by decide) ?_
        refine gw_iand (pc := 168) F d_Painter_drawGroup_168 ?_
        refine gw_iload (pc := 169) F 3 d_Painter_drawGroup_169 rfl ?_
        refine gw_iload (pc := 171) F 2 d_Painter_drawGroup_171 rfl ?_
        refine gw_iload (pc := 173) F 6 d_Painter_drawGroup_173 rfl ?_
        refine gw_iload (pc := 175) F 0 d_Painter_drawGroup_175 rfl ?_
        refine gw_iload (pc := 177) F 8 d_Painter_drawGroup_177 rfl ?_
        refine gw_iconst (pc := 179) (v := (1 : Int32)) F d_Painter_drawGroup_179 (by decide) ?_
        refine gw_iadd (pc := 180) F d_Painter_drawGroup_180 ?_
        refine gw_cV (pc := 181) (As := [.int (r74 &&& (1023 : Int32)), .int v98, .int v119, .int a4, .int a5, .int (a6 + (1 : Int32))]) (rest := []) F (hsh S115 (r74 &&& (1023 : Int32)) v98 v119 a4 a5 (a6 + (1 : Int32)) p115.1 (cXb_p e98 h7x p94.2 hK h6 h4) (cXb_p e119 h8x p115.2 hK h6 h4) hz (gw_k1 h6 h4)) cw_Painter_drawShape cv_Painter_drawShape tw_384 rfl (by omega) (by decide) (by decide) cE_Painter rfl rfl rfl rfl (Nat.le_of_ble_eq_true rfl) d_Painter_drawGroup_181 (gw_bV (P := fun _ U => cOK U) (hso S115 (r74 &&& (1023 : Int32)) v98 v119 a4 a5 (a6 + (1 : Int32)) p115.1 (cXb_p e98 h7x p94.2 hK h6 h4) (cXb_p e119 h8x p115.2 hK h6 h4) hz (gw_k1 h6 h4)) (fun _ S181 p181 => ?_))
        refine gw_iload (pc := 184) F 12 d_Painter_drawGroup_184 rfl ?_
        refine gw_iload (pc := 186) F 1 d_Painter_drawGroup_186 rfl ?_
        refine gw_if_eqT (pc := 188) (tgt := 195) F d_Painter_drawGroup_188 (by decide) (by decide) ?_
        refine gw_iconst (pc := 195) (v := (4 : Int32)) F d_Painter_drawGroup_195 (by decide) ?_
        refine gw_iadd (pc := 196) F d_Painter_drawGroup_196 ?_
        refine gw_nI (fun v197 e197 => ?_)
        refine gw_istore (pc := 197) (lv' := [(10, .int v197), (16, .int a5), (15, .int (0 : Int32)), (14, .int v119), (13, .int v98), (12, .int r74), (0, .ref (ad 6)), (4, .int a4), (5, .int a5), (6, .int a6), (7, .int y7), (8, .int y8), (9, .int y9), (11, .int x11)]) F d_Painter_drawGroup_197 (by decide) rfl ?_
        refine gw_iinc (pc := 199) (v := (x11 + (1 : Int32))) (lv' := [(11, .int (x11 + (1 : Int32))), (10, .int v197), (16, .int a5), (15, .int (0 : Int32)), (14, .int v119), (13, .int v98), (12, .int r74), (0, .ref (ad 6)), (4, .int a4), (5, .int a5), (6, .int a6), (7, .int y7), (8, .int y8), (9, .int y9)]) F 13 d_Painter_drawGroup_199 rfl (congrArg (HAdd.hAdd x11) (by decide)) (by decide) rfl ?_
        refine gw_goto (pc := 202) (tgt := 61) F d_Painter_drawGroup_202 (by decide) ?_
        refine gw_lvs (lv' := [(0, .ref (ad 6)), (4, .int a4), (5, .int a5), (6, .int a6), (7, .int y7), (8, .int y8), (9, .int y9), (10, .int v197), (11, .int (x11 + (1 : Int32)))]) [7, 8, 9, 10, 11, 12, 13, 1, 0] rfl ?_
        exact ih S181 v197 (x11 + (1 : Int32)) (gw_stp h65 hf).1 (gw_stp h65 hf).2.1 p181
      · refine gw_iconst (pc := 129) (v := (1 : Int32)) F d_Painter_drawGroup_129 (by decide) ?_
        refine gw_goto (pc := 130) (tgt := 134) F d_Painter_drawGroup_130 (by decide) ?_
        refine gw_istore (pc := 134) (lv' := [(15, .int (1 : Int32)), (14, .int v119), (13, .int v98), (12, .int r74), (0, .ref (ad 6)), (4, .int a4), (5, .int a5), (6, .int a6), (7, .int y7), (8, .int y8), (9, .int y9), (10, .int x10), (11, .int x11)]) F d_Painter_drawGroup_134 (by decide) rfl ?_
        refine gw_iload (pc := 136) F 0 d_Painter_drawGroup_136 rfl ?_
        refine gw_if_eqN (pc := 138) F 158 d_Painter_drawGroup_138 (by decide) (by decide) ?_
        refine gw_aload_n (pc := 141) F 4 d_Painter_drawGroup_141 rfl rfl ?_
        refine cg_Painter_shapes (pc := 142) F tw_68 d_Painter_drawGroup_142 ?_
        refine gw_iload (pc := 145) F 11 d_Painter_drawGroup_145 rfl ?_
        refine gw_iconst (pc := 147) (v := (4 : Int32)) F d_Painter_drawGroup_147 (by decide) ?_
        refine gw_iadd (pc := 148) F d_Painter_drawGroup_148 ?_
        refine gw_cV (pc := 149) (As := [.int (x10 + (4 : Int32))]) (rest := []) F (c_Bytes_read (gw_FJ F) (Or.inr rfl) S115 (x10 + (4 : Int32))) cw_Bytes_read cv_Bytes_read tw_340 rfl (by omega) (by decide) (chi_Bytes (Or.inr rfl)) (cE_Bytes (Or.inr rfl)) rfl rfl rfl rfl (Nat.le_of_ble_eq_true rfl) d_Painter_drawGroup_149 (gw_bI (P := fun r U => cOK U ∧ vp_in r 256) ⟨(po_ok_Bytes_read (Or.inr rfl) S115 (x10 + (4 : Int32)) p115.1), (cb_read (Or.inr rfl) S115 (x10 + (4 : Int32)) p115.1)⟩ (fun r149 S149 p149 => ?_))
        refine gw_bipush (pc := 152) (v := (15 : Int32)) F d_Painter_drawGroup_152 (by decide) ?_
        refine gw_iand (pc := 154) F d_Painter_drawGroup_154 ?_
        refine gw_goto (pc := 155) (tgt := 160) F d_Painter_drawGroup_155 (by decide) ?_
        refine gw_nI (fun v160 e160 => ?_)
        refine gw_istore (pc := 160) (lv' := [(16, .int v160), (15, .int (1 : Int32)), (14, .int v119), (13, .int v98), (12, .int r74), (0, .ref (ad 6)), (4, .int a4), (5, .int a5), (6, .int a6), (7, .int y7), (8, .int y8), (9, .int y9), (10, .int x10), (11, .int x11)]) F d_Painter_drawGroup_160 (by decide) rfl ?_
        refine gw_aload_n (pc := 162) F 5 d_Painter_drawGroup_162 rfl rfl ?_
        refine gw_iload (pc := 163) F 4 d_Painter_drawGroup_163 rfl ?_
        refine gw_sipush (pc := 165) (v := (1023 : Int32)) F d_Painter_drawGroup_165 (by decide) ?_
        refine gw_iand (pc := 168) F d_Painter_drawGroup_168 ?_
        refine gw_iload (pc := 169) F 3 d_Painter_drawGroup_169 rfl ?_
        refine gw_iload (pc := 171) F 2 d_Painter_drawGroup_171 rfl ?_
        refine gw_iload (pc := 173) F 6 d_Painter_drawGroup_173 rfl ?_
        refine gw_iload (pc := 175) F 0 d_Painter_drawGroup_175 rfl ?_
        refine gw_iload (pc := 177) F 8 d_Painter_drawGroup_177 rfl ?_
        refine gw_iconst (pc := 179) (v := (1 : Int32)) F d_Painter_drawGroup_179 (by decide) ?_
        refine gw_iadd (pc := 180) F d_Painter_drawGroup_180 ?_
        refine gw_cV (pc := 181) (As := [.int (r74 &&& (1023 : Int32)), .int v98, .int v119, .int a4, .int v160, .int (a6 + (1 : Int32))]) (rest := []) F (hsh S149 (r74 &&& (1023 : Int32)) v98 v119 a4 v160 (a6 + (1 : Int32)) p149.1 (cXb_p e98 h7x p94.2 hK h6 h4) (cXb_p e119 h8x p115.2 hK h6 h4) hz (gw_k1 h6 h4)) cw_Painter_drawShape cv_Painter_drawShape tw_384 rfl (by omega) (by decide) (by decide) cE_Painter rfl rfl rfl rfl (Nat.le_of_ble_eq_true rfl) d_Painter_drawGroup_181 (gw_bV (P := fun _ U => cOK U) (hso S149 (r74 &&& (1023 : Int32)) v98 v119 a4 v160 (a6 + (1 : Int32)) p149.1 (cXb_p e98 h7x p94.2 hK h6 h4) (cXb_p e119 h8x p115.2 hK h6 h4) hz (gw_k1 h6 h4)) (fun _ S181 p181 => ?_))
        refine gw_iload (pc := 184) F 12 d_Painter_drawGroup_184 rfl ?_
        refine gw_iload (pc := 186) F 1 d_Painter_drawGroup_186 rfl ?_
        refine gw_if_eqN (pc := 188) F 195 d_Painter_drawGroup_188 (by decide) (by decide) ?_
        refine gw_iconst (pc := 191) (v := (5 : Int32)) F d_Painter_drawGroup_191 (by decide) ?_
        refine gw_goto (pc := 192) (tgt := 196) F d_Painter_drawGroup_192 (by decide) ?_
        refine gw_iadd (pc := 196) F d_Painter_drawGroup_196 ?_
        refine gw_nI (fun v197 e197 => ?_)
        refine gw_istore (pc := 197) (lv' := [(10, .int v197), (16, .int v160), (15, .int (1 : Int32)), (14, .int v119), (13, .int v98), (12, .int r74), (0, .ref (ad 6)), (4, .int a4), (5, .int a5), (6, .int a6), (7, .int y7), (8, .int y8), (9, .int y9), (11, .int x11)]) F d_Painter_drawGroup_197 (by decide) rfl ?_
        refine gw_iinc (pc := 199) (v := (x11 + (1 : Int32))) (lv' := [(11, .int (x11 + (1 : Int32))), (10, .int v197), (16, .int v160), (15, .int (1 : Int32)), (14, .int v119), (13, .int v98), (12, .int r74), (0, .ref (ad 6)), (4, .int a4), (5, .int a5), (6, .int a6), (7, .int y7), (8, .int y8), (9, .int y9)]) F 13 d_Painter_drawGroup_199 rfl (congrArg (HAdd.hAdd x11) (by decide)) (by decide) rfl ?_
        refine gw_goto (pc := 202) (tgt := 61) F d_Painter_drawGroup_202 (by decide) ?_
        refine gw_lvs (lv' := [(0, .ref (ad 6)), (4, .int a4), (5, .int a5), (6, .int a6), (7, .int y7), (8, .int y8), (9, .int y9), (10, .int v197), (11, .int (x11 + (1 : Int32)))]) [7, 8, 9, 10, 11, 12, 13, 1, 0] rfl ?_
        exact ih S181 v197 (x11 + (1 : Int32)) (gw_stp h65 hf).1 (gw_stp h65 hf).2.1 p181
def f_Painter_drawGroup (sh : gw_S → Int32 → Int32 → Int32 → Int32 → Int32 → Int32 → Unit × gw_S)  (S : gw_S) (a1 : Int32) (a2 : Int32) (a3 : Int32) (a4 : Int32) (a5 : Int32) (a6 : Int32) : Unit × gw_S := (gw_b (f_Bytes_read 7 S (a1 + (1 : Int32))) fun r8 S8 => gw_b (f_Painter_scaled S8 r8 a4) fun r13 S13 => gw_n (a2 - r13) fun v17 => gw_b (f_Bytes_read 7 S13 (a1 + (2 : Int32))) fun r27 S27 => gw_b (f_Painter_scaled S27 r27 a4) fun r32 S32 => gw_n (a3 - r32) fun v36 => gw_b (f_Bytes_read 7 S32 (a1 + (3 : Int32))) fun r45 S45 => gw_n (r45 &&& (15 : Int32)) fun v51 => gw_n (a1 + (4 : Int32)) fun v56 => (fl_Painter_drawGroup_61 sh a4 a5 a6 v17 v36 v51 (((v51 : Int32).toInt - ((0 : Int32) : Int32).toInt).toNat + 1) S45 v56 (0 : Int32)))
set_option maxHeartbeats 4000000 in
set_option maxRecDepth 100000 in
theorem c_Painter_drawGroup (hJ : gw_J 46 ad) {K dS : Nat} {sh : gw_S → Int32 → Int32 → Int32 → Int32 → Int32 → Int32 → Unit × gw_S} (hK : K ≤ 5) (hdS : 4 ≤ dS) (hsh : ∀ (S : gw_S) (b1 b2 b3 b4 b5 b6 : Int32), cOK S → cXb b6 b2 → cXb b6 b3 → cSh b4 → b6.toInt + ((K - 1 : Nat) : Int) = 5 → gw_M l y_Painter_drawShape prog_5_method_3_code 8 none gTs (gw_rm dS) D gCl (gTys cI cB cC cZ) 46 ad (cE ad cI cB cC) gw_rV [.ref (ad 6), .int b1, .int b2, .int b3, .int b4, .int b5, .int b6] S (sh S b1 b2 b3 b4 b5 b6)) (hso : ∀ (S : gw_S) (b1 b2 b3 b4 b5 b6 : Int32), cOK S → cXb b6 b2 → cXb b6 b3 → cSh b4 → b6.toInt + ((K - 1 : Nat) : Int) = 5 → cOK (sh S b1 b2 b3 b4 b5 b6).2)  (S : gw_S) (a1 : Int32) (a2 : Int32) (a3 : Int32) (a4 : Int32) (a5 : Int32) (a6 : Int32) (hf_ok : cOK S) (hx : cXb a6 a2) (hy : cXb a6 a3) (hz : cSh a4) (h6 : a6.toInt + (K : Int) = 5) (h4 : a6.toInt ≤ 4) : gw_M l y_Painter_drawGroup prog_5_method_4_code 17 none gTs (gw_rm (dS + 1)) D gCl (gTys cI cB cC cZ) 46 ad (cE ad cI cB cC) gw_rV [.ref (ad 6), .int a1, .int a2, .int a3, .int a4, .int a5, .int a6] S (f_Painter_drawGroup sh S a1 a2 a3 a4 a5 a6) := by
  refine gw_start gTs_ok (plainFor_of_name (by decide)) hJ (Nat.le_of_ble_eq_true rfl) (fun X A F => ?_)
  refine gw_lve (lv' := [(0, .ref (ad 6)), (1, .int a1), (2, .int a2), (3, .int a3), (4, .int a4), (5, .int a5), (6, .int a6)]) rfl ?_
  unfold f_Painter_drawGroup
  refine gw_iload_n (pc := 0) F 2 d_Painter_drawGroup_0 rfl rfl ?_
  refine gw_aload_n (pc := 1) F 0 d_Painter_drawGroup_1 rfl rfl ?_
  refine cg_Painter_shapes (pc := 2) F tw_68 d_Painter_drawGroup_2 ?_
  refine gw_iload_n (pc := 5) F 1 d_Painter_drawGroup_5 rfl rfl ?_
  refine gw_iconst (pc := 6) (v := (1 : Int32)) F d_Painter_drawGroup_6 (by decide) ?_
  refine gw_iadd (pc := 7) F d_Painter_drawGroup_7 ?_
  refine gw_cV (pc := 8) (As := [.int (a1 + (1 : Int32))]) (rest := [.int a2]) F (c_Bytes_read (gw_FJ F) (Or.inr rfl) S (a1 + (1 : Int32))) cw_Bytes_read cv_Bytes_read tw_340 rfl (by omega) (by decide) (chi_Bytes (Or.inr rfl)) (cE_Bytes (Or.inr rfl)) rfl rfl rfl rfl (Nat.le_of_ble_eq_true rfl) d_Painter_drawGroup_8 (gw_bI (P := fun r U => cOK U ∧ vp_in r 256) ⟨(po_ok_Bytes_read (Or.inr rfl) S (a1 + (1 : Int32)) hf_ok), (cb_read (Or.inr rfl) S (a1 + (1 : Int32)) hf_ok)⟩ (fun r8 S8 p8 => ?_))
  refine gw_iload (pc := 11) F 4 d_Painter_drawGroup_11 rfl ?_
  refine gw_cS (pc := 13) (As := [.int r8, .int a4]) (rest := [.int a2]) F (c_Painter_scaled (gw_FJ F) S8 r8 a4) cw_Painter_scaled cv_Painter_scaled tw_345 rfl (by omega) (by decide) rfl rfl (Nat.le_of_ble_eq_true rfl) d_Painter_drawGroup_13 (gw_bI (P := fun r U => cOK U ∧ cSb r) ⟨(po_ok_Painter_scaled S8 r8 a4 p8.1), (cb_scaled S8 r8 a4 p8.2 hz)⟩ (fun r13 S13 p13 => ?_))
  refine gw_isub (pc := 16) F d_Painter_drawGroup_16 ?_
  refine gw_nI (fun v17 e17 => ?_)
  refine gw_istore (pc := 17) (lv' := [(7, .int v17), (0, .ref (ad 6)), (1, .int a1), (2, .int a2), (3, .int a3), (4, .int a4), (5, .int a5), (6, .int a6)]) F d_Painter_drawGroup_17 (by decide) rfl ?_
  refine gw_iload_n (pc := 19) F 4 d_Painter_drawGroup_19 rfl rfl ?_
  refine gw_aload_n (pc := 20) F 1 d_Painter_drawGroup_20 rfl rfl ?_
  refine cg_Painter_shapes (pc := 21) F tw_68 d_Painter_drawGroup_21 ?_
  refine gw_iload_n (pc := 24) F 2 d_Painter_drawGroup_24 rfl rfl ?_
  refine gw_iconst (pc := 25) (v := (2 : Int32)) F d_Painter_drawGroup_25 (by decide) ?_
  refine gw_iadd (pc := 26) F d_Painter_drawGroup_26 ?_
  refine gw_cV (pc := 27) (As := [.int (a1 + (2 : Int32))]) (rest := [.int a3]) F (c_Bytes_read (gw_FJ F) (Or.inr rfl) S13 (a1 + (2 : Int32))) cw_Bytes_read cv_Bytes_read tw_340 rfl (by omega) (by decide) (chi_Bytes (Or.inr rfl)) (cE_Bytes (Or.inr rfl)) rfl rfl rfl rfl (Nat.le_of_ble_eq_true rfl) d_Painter_drawGroup_27 (gw_bI (P := fun r U => cOK U ∧ vp_in r 256) ⟨(po_ok_Bytes_read (Or.inr rfl) S13 (a1 + (2 : Int32)) p13.1), (cb_read (Or.inr rfl) S13 (a1 + (2 : Int32)) p13.1)⟩ (fun r27 S27 p27 => ?_))
  refine gw_iload (pc := 30) F 5 d_Painter_drawGroup_30 rfl ?_
  refine gw_cS (pc := 32) (As := [.int r27, .int a4]) (rest := [.int a3]) F (c_Painter_scaled (gw_FJ F) S27 r27 a4) cw_Painter_scaled cv_Painter_scaled tw_345 rfl (by omega) (by decide) rfl rfl (Nat.le_of_ble_eq_true rfl) d_Painter_drawGroup_32 (gw_bI (P := fun r U => cOK U ∧ cSb r) ⟨(po_ok_Painter_scaled S27 r27 a4 p27.1), (cb_scaled S27 r27 a4 p27.2 hz)⟩ (fun r32 S32 p32 => ?_))
  refine gw_isub (pc := 35) F d_Painter_drawGroup_35 ?_
  refine gw_nI (fun v36 e36 => ?_)
  refine gw_istore (pc := 36) (lv' := [(8, .int v36), (7, .int v17), (0, .ref (ad 6)), (1, .int a1), (2, .int a2), (3, .int a3), (4, .int a4), (5, .int a5), (6, .int a6)]) F d_Painter_drawGroup_36 (by decide) rfl ?_
  refine gw_aload_n (pc := 38) F 2 d_Painter_drawGroup_38 rfl rfl ?_
  refine cg_Painter_shapes (pc := 39) F tw_68 d_Painter_drawGroup_39 ?_
  refine gw_iload_n (pc := 42) F 3 d_Painter_drawGroup_42 rfl rfl ?_
  refine gw_iconst (pc := 43) (v := (3 : Int32)) F d_Painter_drawGroup_43 (by decide) ?_
  refine gw_iadd (pc := 44) F d_Painter_drawGroup_44 ?_
  refine gw_cV (pc := 45) (As := [.int (a1 + (3 : Int32))]) (rest := []) F (c_Bytes_read (gw_FJ F) (Or.inr rfl) S32 (a1 + (3 : Int32))) cw_Bytes_read cv_Bytes_read tw_340 rfl (by omega) (by decide) (chi_Bytes (Or.inr rfl)) (cE_Bytes (Or.inr rfl)) rfl rfl rfl rfl (Nat.le_of_ble_eq_true rfl) d_Painter_drawGroup_45 (gw_bI (P := fun r U => cOK U ∧ vp_in r 256) ⟨(po_ok_Bytes_read (Or.inr rfl) S32 (a1 + (3 : Int32)) p32.1), (cb_read (Or.inr rfl) S32 (a1 + (3 : Int32)) p32.1)⟩ (fun r45 S45 p45 => ?_))
  refine gw_bipush (pc := 48) (v := (15 : Int32)) F d_Painter_drawGroup_48 (by decide) ?_
  refine gw_iand (pc := 50) F d_Painter_drawGroup_50 ?_
  refine gw_nI (fun v51 e51 => ?_)
  refine gw_istore (pc := 51) (lv' := [(9, .int v51), (8, .int v36), (7, .int v17), (0, .ref (ad 6)), (1, .int a1), (2, .int a2), (3, .int a3), (4, .int a4), (5, .int a5), (6, .int a6)]) F d_Painter_drawGroup_51 (by decide) rfl ?_
  refine gw_iload_n (pc := 53) F 4 d_Painter_drawGroup_53 rfl rfl ?_
  refine gw_iconst (pc := 54) (v := (4 : Int32)) F d_Painter_drawGroup_54 (by decide) ?_
  refine gw_iadd (pc := 55) F d_Painter_drawGroup_55 ?_
  refine gw_nI (fun v56 e56 => ?_)
  refine gw_istore (pc := 56) (lv' := [(10, .int v56), (9, .int v51), (8, .int v36), (7, .int v17), (0, .ref (ad 6)), (1, .int a1), (2, .int a2), (3, .int a3), (4, .int a4), (5, .int a5), (6, .int a6)]) F d_Painter_drawGroup_56 (by decide) rfl ?_
  refine gw_iconst (pc := 58) (v := (0 : Int32)) F d_Painter_drawGroup_58 (by decide) ?_
  refine gw_istore (pc := 59) (lv' := [(11, .int (0 : Int32)), (10, .int v56), (9, .int v51), (8, .int v36), (7, .int v17), (0, .ref (ad 6)), (1, .int a1), (2, .int a2), (3, .int a3), (4, .int a4), (5, .int a5), (6, .int a6)]) F d_Painter_drawGroup_59 (by decide) rfl ?_
  refine gw_lvs (lv' := [(0, .ref (ad 6)), (4, .int a4), (5, .int a5), (6, .int a6), (7, .int v17), (8, .int v36), (9, .int v51), (10, .int v56), (11, .int (0 : Int32))]) [5, 9, 10, 11, 4, 3, 2, 1, 0] rfl ?_
  exact l_Painter_drawGroup_61 hK hdS hsh hso F a4 a5 a6 v17 v36 v51 (cXb_g e17 hx p13.2 hK h6) (cXb_g e36 hy p32.2 hK h6) hz h6 h4 (((v51 : Int32).toInt - ((0 : Int32) : Int32).toInt).toNat + 1) S45 v56 (0 : Int32) (Nat.succ_pos _) (gw_ent _) p45.1
set_option maxHeartbeats 4000000 in
set_option maxRecDepth 100000 in
theorem pl_ok_Painter_drawGroup_61 {K : Nat} {sh : gw_S → Int32 → Int32 → Int32 → Int32 → Int32 → Int32 → Unit × gw_S} (hK : K ≤ 5) (hso : ∀ (S : gw_S) (b1 b2 b3 b4 b5 b6 : Int32), cOK S → cXb b6 b2 → cXb b6 b3 → cSh b4 → b6.toInt + ((K - 1 : Nat) : Int) = 5 → cOK (sh S b1 b2 b3 b4 b5 b6).2) (a4 : Int32) (a5 : Int32) (a6 : Int32) (y7 : Int32) (y8 : Int32) (y9 : Int32) (h7x : cGb a6 y7) (h8x : cGb a6 y8) (hz : cSh a4) (h6 : a6.toInt + (K : Int) = 5) (h4 : a6.toInt ≤ 4) : ∀ (n : Nat) (S : gw_S) (x10 x11 : Int32), 0 < n → (y9 : Int32).toInt - x11.toInt < (n : Int) → cOK S → cOK (fl_Painter_drawGroup_61 sh a4 a5 a6 y7 y8 y9 n S x10 x11).2 := by
  intro n
  induction n with
  | zero => intro S x10 x11 hn hf hf_ok; exact absurd hn (Nat.lt_irrefl 0)
  | succ n ih =>
    intro S x10 x11 hn hf hf_ok
    refine po_if (Φ := fun p : Unit × gw_S => cOK p.2) (fun h65 => ?_) (fun h65 => ?_)
    · exact hf_ok
    · refine po_b (Φ := fun p : Unit × gw_S => cOK p.2) (P := fun r U => cOK U) (po_ok_Bytes_readPair (Or.inr rfl) S x10 hf_ok) (fun r74 S74 p74 => ?_)
      refine po_b (Φ := fun p : Unit × gw_S => cOK p.2) (P := fun r U => cOK U ∧ vp_in r 256) ⟨(po_ok_Bytes_read (Or.inr rfl) S74 (x10 + (2 : Int32)) p74), (cb_read (Or.inr rfl) S74 (x10 + (2 : Int32)) p74)⟩ (fun r89 S89 p89 => ?_)
      refine po_b (Φ := fun p : Unit × gw_S => cOK p.2) (P := fun r U => cOK U ∧ cSb r) ⟨(po_ok_Painter_scaled S89 r89 a4 p89.1), (cb_scaled S89 r89 a4 p89.2 hz)⟩ (fun r94 S94 p94 => ?_)
      refine po_n (Φ := fun p : Unit × gw_S => cOK p.2) (fun v98 e98 => ?_)
      refine po_b (Φ := fun p : Unit × gw_S => cOK p.2) (P := fun r U => cOK U ∧ vp_in r 256) ⟨(po_ok_Bytes_read (Or.inr rfl) S94 (x10 + (3 : Int32)) p94.1), (cb_read (Or.inr rfl) S94 (x10 + (3 : Int32)) p94.1)⟩ (fun r110 S110 p110 => ?_)
      refine po_b (Φ := fun p : Unit × gw_S => cOK p.2) (P := fun r U => cOK U ∧ cSb r) ⟨(po_ok_Painter_scaled S110 r110 a4 p110.1), (cb_scaled S110 r110 a4 p110.2 hz)⟩ (fun r115 S115 p115 => ?_)
      refine po_n (Φ := fun p : Unit × gw_S => cOK p.2) (fun v119 e119 => ?_)
      refine po_if (Φ := fun p : Unit × gw_S => cOK p.2) (fun h126 => ?_) (fun h126 => ?_)
      · refine po_b (Φ := fun p : Unit × gw_S => cOK p.2) (P := fun _ U => cOK U) (hso S115 (r74 &&& (1023 : Int32)) v98 v119 a4 a5 (a6 + (1 : Int32)) p115.1 (cXb_p e98 h7x p94.2 hK h6 h4) (cXb_p e119 h8x p115.2 hK h6 h4) hz (gw_k1 h6 h4)) (fun _ S181 p181 => ?_)
        refine po_n (Φ := fun p : Unit × gw_S => cOK p.2) (fun v197 e197 => ?_)
        exact ih S181 v197 (x11 + (1 : Int32)) (gw_stp h65 hf).1 (gw_stp h65 hf).2.1 p181
      · refine po_b (Φ := fun p : Unit × gw_S => cOK p.2) (P := fun r U => cOK U ∧ vp_in r 256) ⟨(po_ok_Bytes_read (Or.inr rfl) S115 (x10 + (4 : Int32)) p115.1), (cb_read (Or.inr rfl) S115 (x10 + (4 : Int32)) p115.1)⟩ (fun r149 S149 p149 => ?_)
        refine po_n (Φ := fun p : Unit × gw_S => cOK p.2) (fun v160 e160 => ?_)
        refine po_b (Φ := fun p : Unit × gw_S => cOK p.2) (P := fun _ U => cOK U) (hso S149 (r74 &&& (1023 : Int32)) v98 v119 a4 v160 (a6 + (1 : Int32)) p149.1 (cXb_p e98 h7x p94.2 hK h6 h4) (cXb_p e119 h8x p115.2 hK h6 h4) hz (gw_k1 h6 h4)) (fun _ S181 p181 => ?_)
        refine po_n (Φ := fun p : Unit × gw_S => cOK p.2) (fun v197 e197 => ?_)
        exact ih S181 v197 (x11 + (1 : Int32)) (gw_stp h65 hf).1 (gw_stp h65 hf).2.1 p181
set_option maxHeartbeats 4000000 in
set_option maxRecDepth 100000 in
theorem po_ok_Painter_drawGroup {K : Nat} {sh : gw_S → Int32 → Int32 → Int32 → Int32 → Int32 → Int32 → Unit × gw_S} (hK : K ≤ 5) (hso : ∀ (S : gw_S) (b1 b2 b3 b4 b5 b6 : Int32), cOK S → cXb b6 b2 → cXb b6 b3 → cSh b4 → b6.toInt + ((K - 1 : Nat) : Int) = 5 → cOK (sh S b1 b2 b3 b4 b5 b6).2)  (S : gw_S) (a1 : Int32) (a2 : Int32) (a3 : Int32) (a4 : Int32) (a5 : Int32) (a6 : Int32) (hf_ok : cOK S) (hx : cXb a6 a2) (hy : cXb a6 a3) (hz : cSh a4) (h6 : a6.toInt + (K : Int) = 5) (h4 : a6.toInt ≤ 4) : cOK (f_Painter_drawGroup sh S a1 a2 a3 a4 a5 a6).2 := by
  unfold f_Painter_drawGroup
  refine po_b (Φ := fun p : Unit × gw_S => cOK p.2) (P := fun r U => cOK U ∧ vp_in r 256) ⟨(po_ok_Bytes_read (Or.inr rfl) S (a1 + (1 : Int32)) hf_ok), (cb_read (Or.inr rfl) S (a1 + (1 : Int32)) hf_ok)⟩ (fun r8 S8 p8 => ?_)
  refine po_b (Φ := fun p : Unit × gw_S => cOK p.2) (P := fun r U => cOK U ∧ cSb r) ⟨(po_ok_Painter_scaled S8 r8 a4 p8.1), (cb_scaled S8 r8 a4 p8.2 hz)⟩ (fun r13 S13 p13 => ?_)
  refine po_n (Φ := fun p : Unit × gw_S => cOK p.2) (fun v17 e17 => ?_)
  refine po_b (Φ := fun p : Unit × gw_S => cOK p.2) (P := fun r U => cOK U ∧ vp_in r 256) ⟨(po_ok_Bytes_read (Or.inr rfl) S13 (a1 + (2 : Int32)) p13.1), (cb_read (Or.inr rfl) S13 (a1 + (2 : Int32)) p13.1)⟩ (fun r27 S27 p27 => ?_)
  refine po_b (Φ := fun p : Unit × gw_S => cOK p.2) (P := fun r U => cOK U ∧ cSb r) ⟨(po_ok_Painter_scaled S27 r27 a4 p27.1), (cb_scaled S27 r27 a4 p27.2 hz)⟩ (fun r32 S32 p32 => ?_)
  refine po_n (Φ := fun p : Unit × gw_S => cOK p.2) (fun v36 e36 => ?_)
  refine po_b (Φ := fun p : Unit × gw_S => cOK p.2) (P := fun r U => cOK U ∧ vp_in r 256) ⟨(po_ok_Bytes_read (Or.inr rfl) S32 (a1 + (3 : Int32)) p32.1), (cb_read (Or.inr rfl) S32 (a1 + (3 : Int32)) p32.1)⟩ (fun r45 S45 p45 => ?_)
  refine po_n (Φ := fun p : Unit × gw_S => cOK p.2) (fun v51 e51 => ?_)
  refine po_n (Φ := fun p : Unit × gw_S => cOK p.2) (fun v56 e56 => ?_)
  exact pl_ok_Painter_drawGroup_61 hK hso a4 a5 a6 v17 v36 v51 (cXb_g e17 hx p13.2 hK h6) (cXb_g e36 hy p32.2 hK h6) hz h6 h4 (((v51 : Int32).toInt - ((0 : Int32) : Int32).toInt).toNat + 1) S45 v56 (0 : Int32) (Nat.succ_pos _) (gw_ent _) p45.1
def f_Painter_drawShape (gr : gw_S → Int32 → Int32 → Int32 → Int32 → Int32 → Int32 → Unit × gw_S)  (S : gw_S) (a1 : Int32) (a2 : Int32) (a3 : Int32) (a4 : Int32) (a5 : Int32) (a6 : Int32) : Unit × gw_S := (if (S 6 5) < (200 : Int32) then (gw_n (gw_u S 6 5 ((S 6 5) + (1 : Int32))) fun S18 => gw_n (gw_u S18 6 6 ((S18 6 6) + (1 : Int32))) fun S28 => gw_b (f_Bytes_read 7 S28 a1) fun r36 S36 => if r36 < (192 : Int32) then (if r36 = (2 : Int32) then (if (4 : Int32) < a6 then (((), S36)) else (gw_b (gr S36 a1 a2 a3 a4 a5 a6) fun _ S116 => ((), S116))) else (((), S36))) else (gw_b (f_Painter_placePairs S36 a1 a2 a3 a4) fun _ S55 => gw_b (f_Bytes_read 7 S55 (a1 + (3 : Int32))) fun r66 S66 => if a5 = (-1 : Int32) then (gw_b (f_Painter_drawPolygon S66 (r66 &&& (15 : Int32)) (r36 &&& (15 : Int32))) fun _ S88 => ((), S88)) else (gw_b (f_Painter_drawPolygon S66 (r66 &&& (15 : Int32)) a5) fun _ S88 => ((), S88)))) else (((), S)))
set_option maxHeartbeats 4000000 in
set_option maxRecDepth 100000 in
theorem c_Painter_drawShape (hJ : gw_J 46 ad) {K dG : Nat} {gr : gw_S → Int32 → Int32 → Int32 → Int32 → Int32 → Int32 → Unit × gw_S} (hK : K ≤ 5) (hdG : 4 ≤ dG) (hgr : ∀ (S : gw_S) (b1 b2 b3 b4 b5 b6 : Int32), cOK S → cXb b6 b2 → cXb b6 b3 → cSh b4 → b6.toInt + (K : Int) = 5 → b6.toInt ≤ 4 → gw_M l y_Painter_drawGroup prog_5_method_4_code 17 none gTs (gw_rm dG) D gCl (gTys cI cB cC cZ) 46 ad (cE ad cI cB cC) gw_rV [.ref (ad 6), .int b1, .int b2, .int b3, .int b4, .int b5, .int b6] S (gr S b1 b2 b3 b4 b5 b6)) (hgo : ∀ (S : gw_S) (b1 b2 b3 b4 b5 b6 : Int32), cOK S → cXb b6 b2 → cXb b6 b3 → cSh b4 → b6.toInt + (K : Int) = 5 → b6.toInt ≤ 4 → cOK (gr S b1 b2 b3 b4 b5 b6).2)  (S : gw_S) (a1 : Int32) (a2 : Int32) (a3 : Int32) (a4 : Int32) (a5 : Int32) (a6 : Int32) (hf_ok : cOK S) (hx : cXb a6 a2) (hy : cXb a6 a3) (hz : cSh a4) (h6 : a6.toInt + (K : Int) = 5) : gw_M l y_Painter_drawShape prog_5_method_3_code 8 none gTs (gw_rm (dG + 1)) D gCl (gTys cI cB cC cZ) 46 ad (cE ad cI cB cC) gw_rV [.ref (ad 6), .int a1, .int a2, .int a3, .int a4, .int a5, .int a6] S (f_Painter_drawShape gr S a1 a2 a3 a4 a5 a6) := by
  refine gw_start gTs_ok (plainFor_of_name (by decide)) hJ (Nat.le_of_ble_eq_true rfl) (fun X A F => ?_)
  refine gw_lve (lv' := [(0, .ref (ad 6)), (1, .int a1), (2, .int a2), (3, .int a3), (4, .int a4), (5, .int a5), (6, .int a6)]) rfl ?_
  unfold f_Painter_drawShape
  refine gw_aload_n (pc := 0) F 0 d_Painter_drawShape_0 rfl rfl ?_
  refine cg_Painter_begunInDraw (pc := 1) F tw_76 d_Painter_drawShape_1 ?_
  refine gw_sipush (pc := 4) (v := (200 : Int32)) F d_Painter_drawShape_4 (by decide) ?_
  refine gw_icmp_ltS (pc := 7) (tgt := 11) F d_Painter_drawShape_7 (by decide) (fun h7 => ?_) (fun h7 => ?_)
  · refine gw_aload_n (pc := 11) F 0 d_Painter_drawShape_11 rfl rfl ?_
    refine gw_dup (pc := 12) F d_Painter_drawShape_12 rfl ?_
    refine cg_Painter_begunInDraw (pc := 13) F tw_76 d_Painter_drawShape_13 ?_
    refine gw_iconst (pc := 16) (v := (1 : Int32)) F d_Painter_drawShape_16 (by decide) ?_
    refine gw_iadd (pc := 17) F d_Painter_drawShape_17 ?_
    refine cp_Painter_begunInDraw (pc := 18) F tw_76 d_Painter_drawShape_18 ?_
    refine gw_nS (fun S18 E18 => ?_)
    refine gw_aload_n (pc := 21) F 0 d_Painter_drawShape_21 rfl rfl ?_
    refine gw_dup (pc := 22) F d_Painter_drawShape_22 rfl ?_
    refine cg_Painter_begunInFrame (pc := 23) F tw_78 d_Painter_drawShape_23 ?_
    refine gw_iconst (pc := 26) (v := (1 : Int32)) F d_Painter_drawShape_26 (by decide) ?_
    refine gw_iadd (pc := 27) F d_Painter_drawShape_27 ?_
    refine cp_Painter_begunInFrame (pc := 28) F tw_78 d_Painter_drawShape_28 ?_
    refine gw_nS (fun S28 E28 => ?_)
    refine gw_aload_n (pc := 31) F 0 d_Painter_drawShape_31 rfl rfl ?_
    refine cg_Painter_shapes (pc := 32) F tw_68 d_Painter_drawShape_32 ?_
    refine gw_iload_n (pc := 35) F 1 d_Painter_drawShape_35 rfl rfl ?_
    refine gw_cV (pc := 36) (As := [.int a1]) (rest := []) F (c_Bytes_read (gw_FJ F) (Or.inr rfl) S28 a1) cw_Bytes_read cv_Bytes_read tw_340 rfl (by omega) (by decide) (chi_Bytes (Or.inr rfl)) (cE_Bytes (Or.inr rfl)) rfl rfl rfl rfl (Nat.le_of_ble_eq_true rfl) d_Painter_drawShape_36 (gw_bI (P := fun r U => cOK U ∧ vp_in r 256) ⟨(po_ok_Bytes_read (Or.inr rfl) S28 a1 (cOK_o E28 (cOK_o E18 hf_ok (by omega)) (by omega))), (cb_read (Or.inr rfl) S28 a1 (cOK_o E28 (cOK_o E18 hf_ok (by omega)) (by omega)))⟩ (fun r36 S36 p36 => ?_))
    refine gw_istore (pc := 39) (lv' := [(7, .int r36), (0, .ref (ad 6)), (1, .int a1), (2, .int a2), (3, .int a3), (4, .int a4), (5, .int a5), (6, .int a6)]) F d_Painter_drawShape_39 (by decide) rfl ?_
    refine gw_iload (pc := 41) F 0 d_Painter_drawShape_41 rfl ?_
    refine gw_sipush (pc := 43) (v := (192 : Int32)) F d_Painter_drawShape_43 (by decide) ?_
    refine gw_icmp_ltS (pc := 46) (tgt := 94) F d_Painter_drawShape_46 (by decide) (fun h46 => ?_) (fun h46 => ?_)
    · refine gw_iload (pc := 94) F 0 d_Painter_drawShape_94 rfl ?_
      refine gw_iconst (pc := 96) (v := (2 : Int32)) F d_Painter_drawShape_96 (by decide) ?_
      refine gw_icmp_neS (pc := 97) (tgt := 119) F d_Painter_drawShape_97 (by decide) (fun h97 => ?_) (fun h97 => ?_)
      · exact gw_vret (pc := 119) F d_Painter_drawShape_119
      · refine gw_iload (pc := 100) F 7 d_Painter_drawShape_100 rfl ?_
        refine gw_iconst (pc := 102) (v := (4 : Int32)) F d_Painter_drawShape_102 (by decide) ?_
        refine gw_icmp_gtS (pc := 103) (tgt := 119) F d_Painter_drawShape_103 (by decide) (fun h103 => ?_) (fun h103 => ?_)
        · exact gw_vret (pc := 119) F d_Painter_drawShape_119
        · refine gw_aload_n (pc := 106) F 1 d_Painter_drawShape_106 rfl rfl ?_
          refine gw_iload_n (pc := 107) F 2 d_Painter_drawShape_107 rfl rfl ?_
          refine gw_iload_n (pc := 108) F 3 d_Painter_drawShape_108 rfl rfl ?_
          refine gw_iload_n (pc := 109) F 4 d_Painter_drawShape_109 rfl rfl ?_
          refine gw_iload (pc := 110) F 5 d_Painter_drawShape_110 rfl ?_
          refine gw_iload (pc := 112) F 6 d_Painter_drawShape_112 rfl ?_
          refine gw_iload (pc := 114) F 7 d_Painter_drawShape_114 rfl ?_
          refine gw_cV (pc := 116) (As := [.int a1, .int a2, .int a3, .int a4, .int a5, .int a6]) (rest := []) F (hgr S36 a1 a2 a3 a4 a5 a6 p36.1 hx hy hz h6 (gw_le4 h103)) cw_Painter_drawGroup cv_Painter_drawGroup tw_378 rfl (by omega) (by decide) (by decide) cE_Painter rfl rfl rfl rfl (Nat.le_of_ble_eq_true rfl) d_Painter_drawShape_116 (gw_bV (P := fun _ U => cOK U) (hgo S36 a1 a2 a3 a4 a5 a6 p36.1 hx hy hz h6 (gw_le4 h103)) (fun _ S116 p116 => ?_))
          exact gw_vret (pc := 119) F d_Painter_drawShape_119
    · refine gw_aload_n (pc := 49) F 1 d_Painter_drawShape_49 rfl rfl ?_
      refine gw_iload_n (pc := 50) F 2 d_Painter_drawShape_50 rfl rfl ?_
      refine gw_iload_n (pc := 51) F 3 d_Painter_drawShape_51 rfl rfl ?_
      refine gw_iload_n (pc := 52) F 4 d_Painter_drawShape_52 rfl rfl ?_
      refine gw_iload (pc := 53) F 5 d_Painter_drawShape_53 rfl ?_
      refine gw_cV (pc := 55) (As := [.int a1, .int a2, .int a3, .int a4]) (rest := []) F (c_Painter_placePairs (gw_FJ F) S36 a1 a2 a3 a4 p36.1 (cXb_z hx h6) (cXb_z hy h6) hz) cw_Painter_placePairs cv_Painter_placePairs tw_341 rfl (by omega) (by decide) (by decide) cE_Painter rfl rfl rfl rfl (Nat.le_of_ble_eq_true rfl) d_Painter_drawShape_55 (gw_bV (P := fun _ U => cOK U) (po_ok_Painter_placePairs S36 a1 a2 a3 a4 p36.1 (cXb_z hx h6) (cXb_z hy h6) hz) (fun _ S55 p55 => ?_))
      refine gw_aload_n (pc := 58) F 1 d_Painter_drawShape_58 rfl rfl ?_
      refine gw_aload_n (pc := 59) F 1 d_Painter_drawShape_59 rfl rfl ?_
      refine cg_Painter_shapes (pc := 60) F tw_68 d_Painter_drawShape_60 ?_
      refine gw_iload_n (pc := 63) F 2 d_Painter_drawShape_63 rfl rfl ?_
      refine gw_iconst (pc := 64) (v := (3 : Int32)) F d_Painter_drawShape_64 (by decide) ?_
      refine gw_iadd (pc := 65) F d_Painter_drawShape_65 ?_
      refine gw_cV (pc := 66) (As := [.int (a1 + (3 : Int32))]) (rest := [.ref (ad 6)]) F (c_Bytes_read (gw_FJ F) (Or.inr rfl) S55 (a1 + (3 : Int32))) cw_Bytes_read cv_Bytes_read tw_340 rfl (by omega) (by decide) (chi_Bytes (Or.inr rfl)) (cE_Bytes (Or.inr rfl)) rfl rfl rfl rfl (Nat.le_of_ble_eq_true rfl) d_Painter_drawShape_66 (gw_bI (P := fun r U => cOK U ∧ vp_in r 256) ⟨(po_ok_Bytes_read (Or.inr rfl) S55 (a1 + (3 : Int32)) p55), (cb_read (Or.inr rfl) S55 (a1 + (3 : Int32)) p55)⟩ (fun r66 S66 p66 => ?_))
      refine gw_bipush (pc := 69) (v := (15 : Int32)) F d_Painter_drawShape_69 (by decide) ?_
      refine gw_iand (pc := 71) F d_Painter_drawShape_71 ?_
      refine gw_iload (pc := 72) F 6 d_Painter_drawShape_72 rfl ?_
      refine gw_iconst (pc := 74) (v := (-1 : Int32)) F d_Painter_drawShape_74 (by decide) ?_
      refine gw_icmp_neS (pc := 75) (tgt := 86) F d_Painter_drawShape_75 (by decide) (fun h75 => ?_) (fun h75 => ?_)
      · refine gw_iload (pc := 86) F 6 d_Painter_drawShape_86 rfl ?_
        refine gw_cV (pc := 88) (As := [.int (r66 &&& (15 : Int32)), .int a5]) (rest := []) F (c_Painter_drawPolygon (gw_FJ F) S66 (r66 &&& (15 : Int32)) a5 p66.1 (gw_and15 _)) cw_Painter_drawPolygon cv_Painter_drawPolygon tw_351 rfl (by omega) (by decide) (by decide) cE_Painter rfl rfl rfl rfl (Nat.le_of_ble_eq_true rfl) d_Painter_drawShape_88 (gw_bV (P := fun _ U => cOK U) (po_ok_Painter_drawPolygon S66 (r66 &&& (15 : Int32)) a5 p66.1 (gw_and15 _)) (fun _ S88 p88 => ?_))
        refine gw_goto (pc := 91) (tgt := 119) F d_Painter_drawShape_91 (by decide) ?_
        exact gw_vret (pc := 119) F d_Painter_drawShape_119
      · refine gw_iload (pc := 78) F 0 d_Painter_drawShape_78 rfl ?_
        refine gw_bipush (pc := 80) (v := (15 : Int32)) F d_Painter_drawShape_80 (by decide) ?_
        refine gw_iand (pc := 82) F d_Painter_drawShape_82 ?_
        refine gw_goto (pc := 83) (tgt := 88) F d_Painter_drawShape_83 (by decide) ?_
        refine gw_cV (pc := 88) (As := [.int (r66 &&& (15 : Int32)), .int (r36 &&& (15 : Int32))]) (rest := []) F (c_Painter_drawPolygon (gw_FJ F) S66 (r66 &&& (15 : Int32)) (r36 &&& (15 : Int32)) p66.1 (gw_and15 _)) cw_Painter_drawPolygon cv_Painter_drawPolygon tw_351 rfl (by omega) (by decide) (by decide) cE_Painter rfl rfl rfl rfl (Nat.le_of_ble_eq_true rfl) d_Painter_drawShape_88 (gw_bV (P := fun _ U => cOK U) (po_ok_Painter_drawPolygon S66 (r66 &&& (15 : Int32)) (r36 &&& (15 : Int32)) p66.1 (gw_and15 _)) (fun _ S88 p88 => ?_))
        refine gw_goto (pc := 91) (tgt := 119) F d_Painter_drawShape_91 (by decide) ?_
        exact gw_vret (pc := 119) F d_Painter_drawShape_119
  · exact gw_vret (pc := 10) F d_Painter_drawShape_10
set_option maxHeartbeats 4000000 in
set_option maxRecDepth 100000 in
theorem po_ok_Painter_drawShape {K : Nat} {gr : gw_S → Int32 → Int32 → Int32 → Int32 → Int32 → Int32 → Unit × gw_S} (hK : K ≤ 5) (hgo : ∀ (S : gw_S) (b1 b2 b3 b4 b5 b6 : Int32), cOK S → cXb b6 b2 → cXb b6 b3 → cSh b4 → b6.toInt + (K : Int) = 5 → b6.toInt ≤ 4 → cOK (gr S b1 b2 b3 b4 b5 b6).2)  (S : gw_S) (a1 : Int32) (a2 : Int32) (a3 : Int32) (a4 : Int32) (a5 : Int32) (a6 : Int32) (hf_ok : cOK S) (hx : cXb a6 a2) (hy : cXb a6 a3) (hz : cSh a4) (h6 : a6.toInt + (K : Int) = 5) : cOK (f_Painter_drawShape gr S a1 a2 a3 a4 a5 a6).2 := by
  unfold f_Painter_drawShape
  refine po_if (Φ := fun p : Unit × gw_S => cOK p.2) (fun h7 => ?_) (fun h7 => ?_)
  · refine po_n (Φ := fun p : Unit × gw_S => cOK p.2) (fun S18 E18 => ?_)
    refine po_n (Φ := fun p : Unit × gw_S => cOK p.2) (fun S28 E28 => ?_)
    refine po_b (Φ := fun p : Unit × gw_S => cOK p.2) (P := fun r U => cOK U ∧ vp_in r 256) ⟨(po_ok_Bytes_read (Or.inr rfl) S28 a1 (cOK_o E28 (cOK_o E18 hf_ok (by omega)) (by omega))), (cb_read (Or.inr rfl) S28 a1 (cOK_o E28 (cOK_o E18 hf_ok (by omega)) (by omega)))⟩ (fun r36 S36 p36 => ?_)
    refine po_if (Φ := fun p : Unit × gw_S => cOK p.2) (fun h46 => ?_) (fun h46 => ?_)
    · refine po_if (Φ := fun p : Unit × gw_S => cOK p.2) (fun h97 => ?_) (fun h97 => ?_)
      · refine po_if (Φ := fun p : Unit × gw_S => cOK p.2) (fun h103 => ?_) (fun h103 => ?_)
        · exact p36.1
        · refine po_b (Φ := fun p : Unit × gw_S => cOK p.2) (P := fun _ U => cOK U) (hgo S36 a1 a2 a3 a4 a5 a6 p36.1 hx hy hz h6 (gw_le4 h103)) (fun _ S116 p116 => ?_)
          exact p116
      · exact p36.1
    · refine po_b (Φ := fun p : Unit × gw_S => cOK p.2) (P := fun _ U => cOK U) (po_ok_Painter_placePairs S36 a1 a2 a3 a4 p36.1 (cXb_z hx h6) (cXb_z hy h6) hz) (fun _ S55 p55 => ?_)
      refine po_b (Φ := fun p : Unit × gw_S => cOK p.2) (P := fun r U => cOK U ∧ vp_in r 256) ⟨(po_ok_Bytes_read (Or.inr rfl) S55 (a1 + (3 : Int32)) p55), (cb_read (Or.inr rfl) S55 (a1 + (3 : Int32)) p55)⟩ (fun r66 S66 p66 => ?_)
      refine po_if (Φ := fun p : Unit × gw_S => cOK p.2) (fun h75 => ?_) (fun h75 => ?_)
      · refine po_b (Φ := fun p : Unit × gw_S => cOK p.2) (P := fun _ U => cOK U) (po_ok_Painter_drawPolygon S66 (r66 &&& (15 : Int32)) (r36 &&& (15 : Int32)) p66.1 (gw_and15 _)) (fun _ S88 p88 => ?_)
        exact p88
      · refine po_b (Φ := fun p : Unit × gw_S => cOK p.2) (P := fun _ U => cOK U) (po_ok_Painter_drawPolygon S66 (r66 &&& (15 : Int32)) a5 p66.1 (gw_and15 _)) (fun _ S88 p88 => ?_)
        exact p88
  · exact hf_ok
def f_Painter_drawShapeK : Nat → gw_S → Int32 → Int32 → Int32 → Int32 → Int32 → Int32 → Unit × gw_S
  | 0 => f_Painter_drawShape (fun S _ _ _ _ _ _ => ((), S))
  | k + 1 => f_Painter_drawShape (f_Painter_drawGroup (f_Painter_drawShapeK k))
theorem po_ok_Painter_drawShapeK : ∀ (k : Nat), k ≤ 5 → ∀ (S : gw_S) (b1 b2 b3 b4 b5 b6 : Int32), cOK S → cXb b6 b2 → cXb b6 b3 → cSh b4 → b6.toInt + (k : Int) = 5 → cOK (f_Painter_drawShapeK k S b1 b2 b3 b4 b5 b6).2 := by
  intro k
  induction k with
  | zero =>
    intro hk S b1 b2 b3 b4 b5 b6 h1 h2 h3 h4 h5
    exact po_ok_Painter_drawShape (K := 0) hk (fun S b1 b2 b3 b4 b5 b6 _ _ _ _ h5 h6 => absurd h5 (by omega)) S b1 b2 b3 b4 b5 b6 h1 h2 h3 h4 h5
  | succ k ih =>
    intro hk S b1 b2 b3 b4 b5 b6 h1 h2 h3 h4 h5
    exact po_ok_Painter_drawShape (K := k + 1) hk (fun S b1 b2 b3 b4 b5 b6 h1 h2 h3 h4 h5 h6 => po_ok_Painter_drawGroup (K := k + 1) hk (ih (by omega)) S b1 b2 b3 b4 b5 b6 h1 h2 h3 h4 h5 h6) S b1 b2 b3 b4 b5 b6 h1 h2 h3 h4 h5
theorem c_Painter_drawShapeL (hJ : gw_J 46 ad) : ∀ (k : Nat), k ≤ 5 → ∀ (S : gw_S) (b1 b2 b3 b4 b5 b6 : Int32), cOK S → cXb b6 b2 → cXb b6 b3 → cSh b4 → b6.toInt + (k : Int) = 5 → gw_M l y_Painter_drawShape prog_5_method_3_code 8 none gTs (gw_rm (5 + 2 * k)) D gCl (gTys cI cB cC cZ) 46 ad (cE ad cI cB cC) gw_rV [.ref (ad 6), .int b1, .int b2, .int b3, .int b4, .int b5, .int b6] S (f_Painter_drawShapeK k S b1 b2 b3 b4 b5 b6) := by
  intro k
  induction k with
  | zero =>
    intro hk S b1 b2 b3 b4 b5 b6 h1 h2 h3 h4 h5
    exact c_Painter_drawShape hJ (K := 0) (dG := 4) hk (by omega) (fun S b1 b2 b3 b4 b5 b6 _ _ _ _ h5 h6 => absurd h5 (by omega)) (fun S b1 b2 b3 b4 b5 b6 _ _ _ _ h5 h6 => absurd h5 (by omega)) S b1 b2 b3 b4 b5 b6 h1 h2 h3 h4 h5
  | succ k ih =>
    intro hk S b1 b2 b3 b4 b5 b6 h1 h2 h3 h4 h5
    exact c_Painter_drawShape hJ (K := k + 1) (dG := 5 + 2 * k + 1) hk (by omega) (fun S b1 b2 b3 b4 b5 b6 h1 h2 h3 h4 h5 h6 => c_Painter_drawGroup hJ (K := k + 1) (dS := 5 + 2 * k) hk (by omega) (ih (by omega)) (po_ok_Painter_drawShapeK k (by omega)) S b1 b2 b3 b4 b5 b6 h1 h2 h3 h4 h5 h6) (fun S b1 b2 b3 b4 b5 b6 h1 h2 h3 h4 h5 h6 => po_ok_Painter_drawGroup (K := k + 1) hk (po_ok_Painter_drawShapeK k (by omega)) S b1 b2 b3 b4 b5 b6 h1 h2 h3 h4 h5 h6) S b1 b2 b3 b4 b5 b6 h1 h2 h3 h4 h5
def f_Player_draw   (S : gw_S)  : Unit × gw_S := (gw_b (f_Player_nextAddress S) fun r1 S1 => gw_b (f_Player_nextVariable S1) fun r10 S10 => gw_n (S10 4 (r10 : Int32).toNatClampNeg) fun v14 => gw_b (f_Player_nextVariable S10) fun r20 S20 => gw_n (S20 4 (r20 : Int32).toNatClampNeg) fun v24 => gw_b (f_Player_nextByte S20) fun r26 S26 => if (128 : Int32) ≤ r26 then (gw_n (gw_u S26 6 5 (0 : Int32)) fun S61 => gw_b ((f_Painter_drawShapeK 5) S61 r1 v14 v24 (64 : Int32) (-1 : Int32) (0 : Int32)) fun _ S75 => ((), S75)) else (gw_n (S26 4 ((r26 &&& (31 : Int32)) : Int32).toNatClampNeg) fun v54 => gw_n (gw_u S26 6 5 (0 : Int32)) fun S61 => gw_b ((f_Painter_drawShapeK 5) S61 r1 v14 v24 v54 (-1 : Int32) (0 : Int32)) fun _ S75 => ((), S75)))
set_option maxHeartbeats 4000000 in
set_option maxRecDepth 100000 in
theorem c_Player_draw (hJ : gw_J 46 ad)   (S : gw_S)  (hf_ok : cOK S) : gw_M l y_Player_draw prog_6_method_14_code 6 none gTs (gw_rm 16) D gCl (gTys cI cB cC cZ) 46 ad (cE ad cI cB cC) gw_rV [.ref (ad 1)] S (f_Player_draw S) := by
  refine gw_start gTs_ok (plainFor_of_name (by decide)) hJ (Nat.le_of_ble_eq_true rfl) (fun X A F => ?_)
  refine gw_lve (lv' := [(0, .ref (ad 1))]) rfl ?_
  unfold f_Player_draw
  refine gw_aload_n (pc := 0) F 0 d_Player_draw_0 rfl rfl ?_
  refine gw_cV (pc := 1) (As := []) (rest := []) F (c_Player_nextAddress (gw_FJ F) S) cw_Player_nextAddress cv_Player_nextAddress tw_256 rfl (by decide) (by decide) (by decide) cE_Player rfl rfl rfl rfl (Nat.le_of_ble_eq_true rfl) d_Player_draw_1 (gw_bI (P := fun r U => cOK U) (po_ok_Player_nextAddress S hf_ok) (fun r1 S1 p1 => ?_))
  refine gw_istore_n (pc := 4) (lv' := [(1, .int r1), (0, .ref (ad 1))]) F d_Player_draw_4 rfl (by decide) rfl ?_
  refine gw_aload_n (pc := 5) F 1 d_Player_draw_5 rfl rfl ?_
  refine cg_Player_variables (pc := 6) F tw_137 d_Player_draw_6 ?_
  refine gw_aload_n (pc := 9) F 1 d_Player_draw_9 rfl rfl ?_
  refine gw_cV (pc := 10) (As := []) (rest := [.ref (ad 4)]) F (c_Player_nextVariable (gw_FJ F) S1) cw_Player_nextVariable cv_Player_nextVariable tw_236 rfl (by decide) (by decide) (by decide) cE_Player rfl rfl rfl rfl (Nat.le_of_ble_eq_true rfl) d_Player_draw_10 (gw_bI (P := fun r U => cOK U ∧ vp_in r 32) ⟨(po_ok_Player_nextVariable S1 p1), (cb_nextVariable S1)⟩ (fun r10 S10 p10 => ?_))
  refine cl_Vars (pc := 13) F p10.2 d_Player_draw_13 ?_
  refine gw_nI (fun v14 e14 => ?_)
  refine gw_istore_n (pc := 14) (lv' := [(2, .int v14), (1, .int r1), (0, .ref (ad 1))]) F d_Player_draw_14 rfl (by decide) rfl ?_
  refine gw_aload_n (pc := 15) F 2 d_Player_draw_15 rfl rfl ?_
  refine cg_Player_variables (pc := 16) F tw_137 d_Player_draw_16 ?_
  refine gw_aload_n (pc := 19) F 2 d_Player_draw_19 rfl rfl ?_
  refine gw_cV (pc := 20) (As := []) (rest := [.ref (ad 4)]) F (c_Player_nextVariable (gw_FJ F) S10) cw_Player_nextVariable cv_Player_nextVariable tw_236 rfl (by decide) (by decide) (by decide) cE_Player rfl rfl rfl rfl (Nat.le_of_ble_eq_true rfl) d_Player_draw_20 (gw_bI (P := fun r U => cOK U ∧ vp_in r 32) ⟨(po_ok_Player_nextVariable S10 p10.1), (cb_nextVariable S10)⟩ (fun r20 S20 p20 => ?_))
  refine cl_Vars (pc := 23) F p20.2 d_Player_draw_23 ?_
  refine gw_nI (fun v24 e24 => ?_)
  refine gw_istore_n (pc := 24) (lv' := [(3, .int v24), (2, .int v14), (1, .int r1), (0, .ref (ad 1))]) F d_Player_draw_24 rfl (by decide) rfl ?_
  refine gw_aload_n (pc := 25) F 3 d_Player_draw_25 rfl rfl ?_
  refine gw_cV (pc := 26) (As := []) (rest := []) F (c_Player_nextByte (gw_FJ F) S20) cw_Player_nextByte cv_Player_nextByte tw_227 rfl (by decide) (by decide) (by decide) cE_Player rfl rfl rfl rfl (Nat.le_of_ble_eq_true rfl) d_Player_draw_26 (gw_bI (P := fun r U => cOK U) (po_ok_Player_nextByte S20 p20.1) (fun r26 S26 p26 => ?_))
  refine gw_istore (pc := 29) (lv' := [(4, .int r26), (3, .int v24), (2, .int v14), (1, .int r1), (0, .ref (ad 1))]) F d_Player_draw_29 (by decide) rfl ?_
  refine gw_iload (pc := 31) F 0 d_Player_draw_31 rfl ?_
  refine gw_sipush (pc := 33) (v := (128 : Int32)) F d_Player_draw_33 (by decide) ?_
  refine gw_icmp_geS (pc := 36) (tgt := 52) F d_Player_draw_36 (by decide) (fun h36 => ?_) (fun h36 => ?_)
  · refine gw_bipush (pc := 52) (v := (64 : Int32)) F d_Player_draw_52 (by decide) ?_
    refine gw_istore (pc := 54) (lv' := [(5, .int (64 : Int32)), (4, .int r26), (3, .int v24), (2, .int v14), (1, .int r1), (0, .ref (ad 1))]) F d_Player_draw_54 (by decide) rfl ?_
    refine gw_aload_n (pc := 56) F 5 d_Player_draw_56 rfl rfl ?_
    refine cg_Player_painter (pc := 57) F tw_141 d_Player_draw_57 ?_
    refine gw_iconst (pc := 60) (v := (0 : Int32)) F d_Player_draw_60 (by decide) ?_
    refine cpN_Painter_begunInDraw (pc := 61) F tw_77 d_Player_draw_61 ?_
    refine gw_nS (fun S61 E61 => ?_)
    refine gw_aload_n (pc := 64) F 5 d_Player_draw_64 rfl rfl ?_
    refine cg_Player_painter (pc := 65) F tw_141 d_Player_draw_65 ?_
    refine gw_iload_n (pc := 68) F 4 d_Player_draw_68 rfl rfl ?_
    refine gw_iload_n (pc := 69) F 3 d_Player_draw_69 rfl rfl ?_
    refine gw_iload_n (pc := 70) F 2 d_Player_draw_70 rfl rfl ?_
    refine gw_iload (pc := 71) F 0 d_Player_draw_71 rfl ?_
    refine gw_iconst (pc := 73) (v := (-1 : Int32)) F d_Player_draw_73 (by decide) ?_
    refine gw_iconst (pc := 74) (v := (0 : Int32)) F d_Player_draw_74 (by decide) ?_
    refine gw_cVN (pc := 75) (As := [.int r1, .int v14, .int v24, .int (64 : Int32), .int (-1 : Int32), .int (0 : Int32)]) (rest := []) F (c_Painter_drawShapeL (gw_FJ F) 5 (by decide) S61 r1 v14 v24 (64 : Int32) (-1 : Int32) (0 : Int32) (cOK_o E61 p26 (by omega)) (cXb_0 (cOK_sh p10.1 e14)) (cXb_0 (cOK_sh p20.1 e24)) cSh_64 (by decide)) cw_Painter_drawShape cv_Painter_drawShape tw_336 rfl (by decide) (by decide) (by decide) cE_Painter rfl rfl rfl rfl (Nat.le_of_ble_eq_true rfl) d_Player_draw_75 (gw_bV (P := fun _ U => cOK U) (po_ok_Painter_drawShapeK 5 (by decide) S61 r1 v14 v24 (64 : Int32) (-1 : Int32) (0 : Int32) (cOK_o E61 p26 (by omega)) (cXb_0 (cOK_sh p10.1 e14)) (cXb_0 (cOK_sh p20.1 e24)) cSh_64 (by decide)) (fun _ S75 p75 => ?_))
    exact gw_vret (pc := 78) F d_Player_draw_78
  · refine gw_aload_n (pc := 39) F 4 d_Player_draw_39 rfl rfl ?_
    refine cg_Player_variables (pc := 40) F tw_137 d_Player_draw_40 ?_
    refine gw_iload (pc := 43) F 0 d_Player_draw_43 rfl ?_
    refine gw_bipush (pc := 45) (v := (31 : Int32)) F d_Player_draw_45 (by decide) ?_
    refine gw_iand (pc := 47) F d_Player_draw_47 ?_
    refine cl_Vars (pc := 48) F (gw_and31 _) d_Player_draw_48 ?_
    refine gw_goto (pc := 49) (tgt := 54) F d_Player_draw_49 (by decide) ?_
    refine gw_nI (fun v54 e54 => ?_)
    refine gw_istore (pc := 54) (lv' := [(5, .int v54), (4, .int r26), (3, .int v24), (2, .int v14), (1, .int r1), (0, .ref (ad 1))]) F d_Player_draw_54 (by decide) rfl ?_
    refine gw_aload_n (pc := 56) F 5 d_Player_draw_56 rfl rfl ?_
    refine cg_Player_painter (pc := 57) F tw_141 d_Player_draw_57 ?_
    refine gw_iconst (pc := 60) (v := (0 : Int32)) F d_Player_draw_60 (by decide) ?_
    refine cpN_Painter_begunInDraw (pc := 61) F tw_77 d_Player_draw_61 ?_
    refine gw_nS (fun S61 E61 => ?_)
    refine gw_aload_n (pc := 64) F 5 d_Player_draw_64 rfl rfl ?_
    refine cg_Player_painter (pc := 65) F tw_141 d_Player_draw_65 ?_
    refine gw_iload_n (pc := 68) F 4 d_Player_draw_68 rfl rfl ?_
    refine gw_iload_n (pc := 69) F 3 d_Player_draw_69 rfl rfl ?_
    refine gw_iload_n (pc := 70) F 2 d_Player_draw_70 rfl rfl ?_
    refine gw_iload (pc := 71) F 0 d_Player_draw_71 rfl ?_
    refine gw_iconst (pc := 73) (v := (-1 : Int32)) F d_Player_draw_73 (by decide) ?_
    refine gw_iconst (pc := 74) (v := (0 : Int32)) F d_Player_draw_74 (by decide) ?_
    refine gw_cVN (pc := 75) (As := [.int r1, .int v14, .int v24, .int v54, .int (-1 : Int32), .int (0 : Int32)]) (rest := []) F (c_Painter_drawShapeL (gw_FJ F) 5 (by decide) S61 r1 v14 v24 v54 (-1 : Int32) (0 : Int32) (cOK_o E61 p26 (by omega)) (cXb_0 (cOK_sh p10.1 e14)) (cXb_0 (cOK_sh p20.1 e24)) (cOK_sh p26 e54) (by decide)) cw_Painter_drawShape cv_Painter_drawShape tw_336 rfl (by decide) (by decide) (by decide) cE_Painter rfl rfl rfl rfl (Nat.le_of_ble_eq_true rfl) d_Player_draw_75 (gw_bV (P := fun _ U => cOK U) (po_ok_Painter_drawShapeK 5 (by decide) S61 r1 v14 v24 v54 (-1 : Int32) (0 : Int32) (cOK_o E61 p26 (by omega)) (cXb_0 (cOK_sh p10.1 e14)) (cXb_0 (cOK_sh p20.1 e24)) (cOK_sh p26 e54) (by decide)) (fun _ S75 p75 => ?_))
    exact gw_vret (pc := 78) F d_Player_draw_78
set_option maxHeartbeats 4000000 in
set_option maxRecDepth 100000 in
theorem po_ok_Player_draw   (S : gw_S)  (hf_ok : cOK S) : cOK (f_Player_draw S).2 := by
  unfold f_Player_draw
  refine po_b (Φ := fun p : Unit × gw_S => cOK p.2) (P := fun r U => cOK U) (po_ok_Player_nextAddress S hf_ok) (fun r1 S1 p1 => ?_)
  refine po_b (Φ := fun p : Unit × gw_S => cOK p.2) (P := fun r U => cOK U ∧ vp_in r 32) ⟨(po_ok_Player_nextVariable S1 p1), (cb_nextVariable S1)⟩ (fun r10 S10 p10 => ?_)
  refine po_n (Φ := fun p : Unit × gw_S => cOK p.2) (fun v14 e14 => ?_)
  refine po_b (Φ := fun p : Unit × gw_S => cOK p.2) (P := fun r U => cOK U ∧ vp_in r 32) ⟨(po_ok_Player_nextVariable S10 p10.1), (cb_nextVariable S10)⟩ (fun r20 S20 p20 => ?_)
  refine po_n (Φ := fun p : Unit × gw_S => cOK p.2) (fun v24 e24 => ?_)
  refine po_b (Φ := fun p : Unit × gw_S => cOK p.2) (P := fun r U => cOK U) (po_ok_Player_nextByte S20 p20.1) (fun r26 S26 p26 => ?_)
  refine po_if (Φ := fun p : Unit × gw_S => cOK p.2) (fun h36 => ?_) (fun h36 => ?_)
  · refine po_n (Φ := fun p : Unit × gw_S => cOK p.2) (fun S61 E61 => ?_)
    refine po_b (Φ := fun p : Unit × gw_S => cOK p.2) (P := fun _ U => cOK U) (po_ok_Painter_drawShapeK 5 (by decide) S61 r1 v14 v24 (64 : Int32) (-1 : Int32) (0 : Int32) (cOK_o E61 p26 (by omega)) (cXb_0 (cOK_sh p10.1 e14)) (cXb_0 (cOK_sh p20.1 e24)) cSh_64 (by decide)) (fun _ S75 p75 => ?_)
    exact p75
  · refine po_n (Φ := fun p : Unit × gw_S => cOK p.2) (fun v54 e54 => ?_)
    refine po_n (Φ := fun p : Unit × gw_S => cOK p.2) (fun S61 E61 => ?_)
    refine po_b (Φ := fun p : Unit × gw_S => cOK p.2) (P := fun _ U => cOK U) (po_ok_Painter_drawShapeK 5 (by decide) S61 r1 v14 v24 v54 (-1 : Int32) (0 : Int32) (cOK_o E61 p26 (by omega)) (cXb_0 (cOK_sh p10.1 e14)) (cXb_0 (cOK_sh p20.1 e24)) (cOK_sh p26 e54) (by decide)) (fun _ S75 p75 => ?_)
    exact p75
def f_Pages_copy   (S : gw_S) (a1 : Int32) (a2 : Int32) : Unit × gw_S := (gw_n (gw_a S 10 (va_cpy (S 10) (S 10) ((a2 * (2560 : Int32)) : Int32).toNatClampNeg ((a1 * (2560 : Int32)) : Int32).toNatClampNeg (2560 : Int32).toNatClampNeg)) fun S21 => ((), S21))
set_option maxHeartbeats 4000000 in
set_option maxRecDepth 100000 in
theorem c_Pages_copy (hJ : gw_J 46 ad)   (S : gw_S) (a1 : Int32) (a2 : Int32) (hf_ok : cOK S) (hb1 : vp_in a1 4) (hb2 : vp_in a2 4) : gw_M l y_Pages_copy prog_4_method_5_code 3 none gTs (gw_rm 1) D gCl (gTys cI cB cC cZ) 46 ad (cE ad cI cB cC) gw_rV [.ref (ad 9), .int a1, .int a2] S (f_Pages_copy S a1 a2) := by
  refine gw_start gTs_ok (plainFor_of_name (by decide)) hJ (Nat.le_of_ble_eq_true rfl) (fun X A F => ?_)
  refine gw_lve (lv' := [(0, .ref (ad 9)), (1, .int a1), (2, .int a2)]) rfl ?_
  unfold f_Pages_copy
  refine gw_aload_n (pc := 0) F 0 d_Pages_copy_0 rfl rfl ?_
  refine cg_Pages_pixels (pc := 1) F tw_52 d_Pages_copy_1 ?_
  refine gw_iload_n (pc := 4) F 2 d_Pages_copy_4 rfl rfl ?_
  refine gw_sipush (pc := 5) (v := (2560 : Int32)) F d_Pages_copy_5 (by decide) ?_
  refine gw_imul (pc := 8) F d_Pages_copy_8 ?_
  refine gw_aload_n (pc := 9) F 0 d_Pages_copy_9 rfl rfl ?_
  refine cg_Pages_pixels (pc := 10) F tw_52 d_Pages_copy_10 ?_
  refine gw_iload_n (pc := 13) F 1 d_Pages_copy_13 rfl rfl ?_
  refine gw_sipush (pc := 14) (v := (2560 : Int32)) F d_Pages_copy_14 (by decide) ?_
  refine gw_imul (pc := 17) F d_Pages_copy_17 ?_
  refine gw_sipush (pc := 18) (v := (2560 : Int32)) F d_Pages_copy_18 (by decide) ?_
  refine gw_copy (pc := 21) (rest := []) F 10 1 (by decide) cE_Pix rfl rfl (pg_4 hb2) (pg_4 hb1) (by decide) (pg_5 hb2) (pg_5 hb1) (fun q _ => (hf_ok 10 _).2.2.2.1 rfl) tw_329 tw_331 tw_330 tw_9 (by decide) (by decide) cE_Pix d_Pages_copy_21 ?_
  refine gw_nS (fun S21 E21 => ?_)
  exact gw_vret (pc := 24) F d_Pages_copy_24
set_option maxHeartbeats 4000000 in
set_option maxRecDepth 100000 in
theorem po_ok_Pages_copy   (S : gw_S) (a1 : Int32) (a2 : Int32) (hf_ok : cOK S) (hb1 : vp_in a1 4) (hb2 : vp_in a2 4) : cOK (f_Pages_copy S a1 a2).2 := by
  unfold f_Pages_copy
  refine po_n (Φ := fun p : Unit × gw_S => cOK p.2) (fun S21 E21 => ?_)
  exact (cOK_cp E21 hf_ok)
def f_Player_handlePages   (S : gw_S) (a1 : Int32) : Unit × gw_S := (gw_b (f_Player_nextByte S) fun r10 S10 => gw_b (f_Pages_pageOf S10 r10) fun r13 S13 => (if a1 = 18 then (gw_n (gw_u S13 9 1 r13) fun S46 => ((), S46)) else (if a1 = 19 then (gw_b (f_Player_nextByte S13) fun r55 S55 => gw_b (f_Pages_fill S55 r13 (r55 &&& (15 : Int32))) fun _ S61 => ((), S61)) else (if a1 = 20 then (gw_b (f_Player_nextByte S13) fun r71 S71 => gw_b (f_Pages_pageOf S71 r71) fun r74 S74 => gw_b (f_Pages_copy S74 r13 r74) fun _ S77 => ((), S77)) else (gw_n (gw_u S13 9 2 r13) fun S85 => ((), S85))))))
set_option maxHeartbeats 4000000 in
set_option maxRecDepth 100000 in
theorem c_Player_handlePages (hJ : gw_J 46 ad)   (S : gw_S) (a1 : Int32) (hf_ok : cOK S) : gw_M l y_Player_handlePages prog_6_method_13_code 4 none gTs (gw_rm 4) D gCl (gTys cI cB cC cZ) 46 ad (cE ad cI cB cC) gw_rV [.ref (ad 1), .int a1] S (f_Player_handlePages S a1) := by
  refine gw_start gTs_ok (plainFor_of_name (by decide)) hJ (Nat.le_of_ble_eq_true rfl) (fun X A F => ?_)
  refine gw_lve (lv' := [(0, .ref (ad 1)), (1, .int a1)]) rfl ?_
  unfold f_Player_handlePages
  refine gw_aload_n (pc := 0) F 0 d_Player_handlePages_0 rfl rfl ?_
  refine cg_Player_painter (pc := 1) F tw_141 d_Player_handlePages_1 ?_
  refine cgN_Painter_pages (pc := 4) F tw_72 d_Player_handlePages_4 ?_
  refine gw_astore_n (pc := 7) (lv' := [(2, .ref (ad 9)), (0, .ref (ad 1)), (1, .int a1)]) F d_Player_handlePages_7 rfl (by decide) rfl ?_
  refine gw_aload_n (pc := 8) F 0 d_Player_handlePages_8 rfl rfl ?_
  refine gw_aload_n (pc := 9) F 1 d_Player_handlePages_9 rfl rfl ?_
  refine gw_cV (pc := 10) (As := []) (rest := [.ref (ad 9)]) F (c_Player_nextByte (gw_FJ F) S) cw_Player_nextByte cv_Player_nextByte tw_227 rfl (by decide) (by decide) (by decide) cE_Player rfl rfl rfl rfl (Nat.le_of_ble_eq_true rfl) d_Player_handlePages_10 (gw_bI (P := fun r U => cOK U) (po_ok_Player_nextByte S hf_ok) (fun r10 S10 p10 => ?_))
  refine gw_cV (pc := 13) (As := [.int r10]) (rest := []) F (c_Pages_pageOf (gw_FJ F) S10 r10) cw_Pages_pageOf cv_Pages_pageOf tw_311 rfl (by decide) (by decide) (by decide) cE_Pages rfl rfl rfl rfl (Nat.le_of_ble_eq_true rfl) d_Player_handlePages_13 (gw_bI (P := fun r U => cOK U ∧ vp_in r 4) ⟨(po_ok_Pages_pageOf S10 r10 p10), (cb_pageOf S10 r10 p10)⟩ (fun r13 S13 p13 => ?_))
  refine gw_istore_n (pc := 16) (lv' := [(3, .int r13), (2, .ref (ad 9)), (0, .ref (ad 1)), (1, .int a1)]) F d_Player_handlePages_16 rfl (by decide) rfl ?_
  refine gw_iload_n (pc := 17) F 3 d_Player_handlePages_17 rfl rfl ?_
  refine gw_spl (fun h18_18 => ?_) (fun h18_18 => ?_)
  · refine gw_tableIn (pc := 18) (tgt := 44) F d_Player_handlePages_18 h18_18 (by decide) (by decide) rfl (by decide) ?_
    refine gw_aload_n (pc := 44) F 1 d_Player_handlePages_44 rfl rfl ?_
    refine gw_iload_n (pc := 45) F 0 d_Player_handlePages_45 rfl rfl ?_
    refine cpN_Pages_working (pc := 46) F tw_56 d_Player_handlePages_46 ?_
    refine gw_nS (fun S46 E46 => ?_)
    refine gw_goto (pc := 49) (tgt := 88) F d_Player_handlePages_49 (by decide) ?_
    exact gw_vret (pc := 88) F d_Player_handlePages_88
  refine gw_spl (fun h18_19 => ?_) (fun h18_19 => ?_)
  · refine gw_tableIn (pc := 18) (tgt := 52) F d_Player_handlePages_18 h18_19 (by decide) (by decide) rfl (by decide) ?_
    refine gw_aload_n (pc := 52) F 1 d_Player_handlePages_52 rfl rfl ?_
    refine gw_iload_n (pc := 53) F 0 d_Player_handlePages_53 rfl rfl ?_
    refine gw_aload_n (pc := 54) F 2 d_Player_handlePages_54 rfl rfl ?_
    refine gw_cV (pc := 55) (As := []) (rest := [.int r13, .ref (ad 9)]) F (c_Player_nextByte (gw_FJ F) S13) cw_Player_nextByte cv_Player_nextByte tw_227 rfl (by decide) (by decide) (by decide) cE_Player rfl rfl rfl rfl (Nat.le_of_ble_eq_true rfl) d_Player_handlePages_55 (gw_bI (P := fun r U => cOK U) (po_ok_Player_nextByte S13 p13.1) (fun r55 S55 p55 => ?_))
    refine gw_bipush (pc := 58) (v := (15 : Int32)) F d_Player_handlePages_58 (by decide) ?_
    refine gw_iand (pc := 60) F d_Player_handlePages_60 ?_
    refine gw_cV (pc := 61) (As := [.int r13, .int (r55 &&& (15 : Int32))]) (rest := []) F (c_Pages_fill (gw_FJ F) S55 r13 (r55 &&& (15 : Int32)) p13.2) cw_Pages_fill cv_Pages_fill tw_315 rfl (by decide) (by decide) (by decide) cE_Pages rfl rfl rfl rfl (Nat.le_of_ble_eq_true rfl) d_Player_handlePages_61 (gw_bV (P := fun _ U => cOK U) (po_ok_Pages_fill S55 r13 (r55 &&& (15 : Int32)) p55 p13.2) (fun _ S61 p61 => ?_))
    refine gw_goto (pc := 64) (tgt := 88) F d_Player_handlePages_64 (by decide) ?_
    exact gw_vret (pc := 88) F d_Player_handlePages_88
  refine gw_spl (fun h18_20 => ?_) (fun h18_20 => ?_)
  · refine gw_tableIn (pc := 18) (tgt := 67) F d_Player_handlePages_18 h18_20 (by decide) (by decide) rfl (by decide) ?_
    refine gw_aload_n (pc := 67) F 1 d_Player_handlePages_67 rfl rfl ?_
    refine gw_iload_n (pc := 68) F 0 d_Player_handlePages_68 rfl rfl ?_
    refine gw_aload_n (pc := 69) F 1 d_Player_handlePages_69 rfl rfl ?_
    refine gw_aload_n (pc := 70) F 2 d_Player_handlePages_70 rfl rfl ?_
    refine gw_cV (pc := 71) (As := []) (rest := [.ref (ad 9), .int r13, .ref (ad 9)]) F (c_Player_nextByte (gw_FJ F) S13) cw_Player_nextByte cv_Player_nextByte tw_227 rfl (by decide) (by decide) (by decide) cE_Player rfl rfl rfl rfl (Nat.le_of_ble_eq_true rfl) d_Player_handlePages_71 (gw_bI (P := fun r U => cOK U) (po_ok_Player_nextByte S13 p13.1) (fun r71 S71 p71 => ?_))
    refine gw_cV (pc := 74) (As := [.int r71]) (rest := [.int r13, .ref (ad 9)]) F (c_Pages_pageOf (gw_FJ F) S71 r71) cw_Pages_pageOf cv_Pages_pageOf tw_311 rfl (by decide) (by decide) (by decide) cE_Pages rfl rfl rfl rfl (Nat.le_of_ble_eq_true rfl) d_Player_handlePages_74 (gw_bI (P := fun r U => cOK U ∧ vp_in r 4) ⟨(po_ok_Pages_pageOf S71 r71 p71), (cb_pageOf S71 r71 p71)⟩ (fun r74 S74 p74 => ?_))
    refine gw_cV (pc := 77) (As := [.int r13, .int r74]) (rest := []) F (c_Pages_copy (gw_FJ F) S74 r13 r74 p74.1 p13.2 p74.2) cw_Pages_copy cv_Pages_copy tw_325 rfl (by decide) (by decide) (by decide) cE_Pages rfl rfl rfl rfl (Nat.le_of_ble_eq_true rfl) d_Player_handlePages_77 (gw_bV (P := fun _ U => cOK U) (po_ok_Pages_copy S74 r13 r74 p74.1 p13.2 p74.2) (fun _ S77 p77 => ?_))
    refine gw_goto (pc := 80) (tgt := 88) F d_Player_handlePages_80 (by decide) ?_
    exact gw_vret (pc := 88) F d_Player_handlePages_88
  refine gw_tableOut (pc := 18) (tgt := 83) F d_Player_handlePages_18 (by have ne_18 : ¬ (a1 : Int32).toInt = 18 := gw_ne h18_18; have ne_19 : ¬ (a1 : Int32).toInt = 19 := gw_ne h18_19; have ne_20 : ¬ (a1 : Int32).toInt = 20 := gw_ne h18_20; omega) (by decide) ?_
  refine gw_aload_n (pc := 83) F 1 d_Player_handlePages_83 rfl rfl ?_
  refine gw_iload_n (pc := 84) F 0 d_Player_handlePages_84 rfl rfl ?_
  refine cpN_Pages_shown (pc := 85) F tw_59 d_Player_handlePages_85 ?_
  refine gw_nS (fun S85 E85 => ?_)
  exact gw_vret (pc := 88) F d_Player_handlePages_88
set_option maxHeartbeats 4000000 in
set_option maxRecDepth 100000 in
theorem po_ok_Player_handlePages   (S : gw_S) (a1 : Int32) (hf_ok : cOK S) : cOK (f_Player_handlePages S a1).2 := by
  unfold f_Player_handlePages
  refine po_b (Φ := fun p : Unit × gw_S => cOK p.2) (P := fun r U => cOK U) (po_ok_Player_nextByte S hf_ok) (fun r10 S10 p10 => ?_)
  refine po_b (Φ := fun p : Unit × gw_S => cOK p.2) (P := fun r U => cOK U ∧ vp_in r 4) ⟨(po_ok_Pages_pageOf S10 r10 p10), (cb_pageOf S10 r10 p10)⟩ (fun r13 S13 p13 => ?_)
  refine po_if (Φ := fun p : Unit × gw_S => cOK p.2) (fun h18_18 => ?_) (fun h18_18 => ?_)
  · refine po_n (Φ := fun p : Unit × gw_S => cOK p.2) (fun S46 E46 => ?_)
    exact (cOK_g E46 p13.1 p13.2)
  refine po_if (Φ := fun p : Unit × gw_S => cOK p.2) (fun h18_19 => ?_) (fun h18_19 => ?_)
  · refine po_b (Φ := fun p : Unit × gw_S => cOK p.2) (P := fun r U => cOK U) (po_ok_Player_nextByte S13 p13.1) (fun r55 S55 p55 => ?_)
    refine po_b (Φ := fun p : Unit × gw_S => cOK p.2) (P := fun _ U => cOK U) (po_ok_Pages_fill S55 r13 (r55 &&& (15 : Int32)) p55 p13.2) (fun _ S61 p61 => ?_)
    exact p61
  refine po_if (Φ := fun p : Unit × gw_S => cOK p.2) (fun h18_20 => ?_) (fun h18_20 => ?_)
  · refine po_b (Φ := fun p : Unit × gw_S => cOK p.2) (P := fun r U => cOK U) (po_ok_Player_nextByte S13 p13.1) (fun r71 S71 p71 => ?_)
    refine po_b (Φ := fun p : Unit × gw_S => cOK p.2) (P := fun r U => cOK U ∧ vp_in r 4) ⟨(po_ok_Pages_pageOf S71 r71 p71), (cb_pageOf S71 r71 p71)⟩ (fun r74 S74 p74 => ?_)
    refine po_b (Φ := fun p : Unit × gw_S => cOK p.2) (P := fun _ U => cOK U) (po_ok_Pages_copy S74 r13 r74 p74.1 p13.2 p74.2) (fun _ S77 p77 => ?_)
    exact p77
  refine po_n (Φ := fun p : Unit × gw_S => cOK p.2) (fun S85 E85 => ?_)
  exact (cOK_g E85 p13.1 p13.2)
def f_Player_doInstruction  (j : Nat) (S : gw_S)  : Unit × gw_S := (gw_b (f_Player_nextByte S) fun r1 S1 => if (8 : Int32) < r1 then (if r1 = 9 then (gw_b (f_Player_nextAddress S1) fun r90 S90 => gw_n (gw_u S90 1 4 r90) fun S93 => ((), S93)) else (if r1 = 10 then (gw_b (f_Player_callAddress j S1) fun _ S101 => ((), S101)) else (if r1 = 11 then (gw_b (f_Player_comeBack j S1) fun _ S109 => ((), S109)) else (if r1 = 12 then (gw_b (f_Player_loop S1) fun _ S116 => ((), S116)) else (if r1 = 13 then (gw_b (f_Player_jumpIf j S1) fun _ S124 => ((), S124)) else (if r1 = 14 then (gw_n (gw_u S1 1 5 (0 : Int32)) fun S132 => ((), S132)) else (if r1 = 15 then (gw_b (f_Player_end S1) fun _ S139 => ((), S139)) else (if r1 = 16 then (gw_b (f_Player_startOther S1) fun _ S146 => ((), S146)) else (if r1 = 17 then (gw_b (f_Player_askOfEach j S1) fun _ S154 => ((), S154)) else (if r1 = 18 then (gw_b (f_Player_handlePages S1 r1) fun _ S162 => ((), S162)) else (if r1 = 19 then (gw_b (f_Player_handlePages S1 r1) fun _ S162 => ((), S162)) else (if r1 = 20 then (gw_b (f_Player_handlePages S1 r1) fun _ S162 => ((), S162)) else (if r1 = 21 then (gw_b (f_Player_handlePages S1 r1) fun _ S162 => ((), S162)) else (if r1 = 22 then (gw_b (f_Player_draw S1) fun _ S169 => ((), S169)) else (gw_b (f_Player_fail j S1 (5 : Int32)) fun _ S178 => ((), S178)))))))))))))))) else (gw_b (f_Player_compute S1 r1) fun _ S13 => ((), S13)))
set_option maxHeartbeats 4000000 in
set_option maxRecDepth 100000 in
theorem c_Player_doInstruction (hJ : gw_J 46 ad)  {j : Nat} (hj : j < 16) (S : gw_S)  (hf_ok : cOK S) : gw_M l y_Player_doInstruction prog_6_method_3_code 3 none gTs (gw_rm 17) D gCl (gTys cI cB cC cZ) 46 ad (cE ad cI cB cC) gw_rV [.ref (ad 1), .ref (ad (j + 14))] S (f_Player_doInstruction j S) := by
  refine gw_start gTs_ok (plainFor_of_name (by decide)) hJ (Nat.le_of_ble_eq_true rfl) (fun X A F => ?_)
  refine gw_lve (lv' := [(0, .ref (ad 1)), (1, .ref (ad (j + 14)))]) rfl ?_
  unfold f_Player_doInstruction
  refine gw_aload_n (pc := 0) F 0 d_Player_doInstruction_0 rfl rfl ?_
  refine gw_cV (pc := 1) (As := []) (rest := []) F (c_Player_nextByte (gw_FJ F) S) cw_Player_nextByte cv_Player_nextByte tw_227 rfl (by decide) (by decide) (by decide) cE_Player rfl rfl rfl rfl (Nat.le_of_ble_eq_true rfl) d_Player_doInstruction_1 (gw_bI (P := fun r U => cOK U) (po_ok_Player_nextByte S hf_ok) (fun r1 S1 p1 => ?_))
  refine gw_istore_n (pc := 4) (lv' := [(2, .int r1), (0, .ref (ad 1)), (1, .ref (ad (j + 14)))]) F d_Player_doInstruction_4 rfl (by decide) rfl ?_
  refine gw_iload_n (pc := 5) F 0 d_Player_doInstruction_5 rfl rfl ?_
  refine gw_bipush (pc := 6) (v := (8 : Int32)) F d_Player_doInstruction_6 (by decide) ?_
  refine gw_icmp_gtS (pc := 8) (tgt := 17) F d_Player_doInstruction_8 (by decide) (fun h8 => ?_) (fun h8 => ?_)
  · refine gw_iload_n (pc := 17) F 0 d_Player_doInstruction_17 rfl rfl ?_
    refine gw_spl (fun h18_9 => ?_) (fun h18_9 => ?_)
    · refine gw_tableIn (pc := 18) (tgt := 88) F d_Player_doInstruction_18 h18_9 (by decide) (by decide) rfl (by decide) ?_
      refine gw_aload_n (pc := 88) F 1 d_Player_doInstruction_88 rfl rfl ?_
      refine gw_aload_n (pc := 89) F 1 d_Player_doInstruction_89 rfl rfl ?_
      refine gw_cV (pc := 90) (As := []) (rest := [.ref (ad 1)]) F (c_Player_nextAddress (gw_FJ F) S1) cw_Player_nextAddress cv_Player_nextAddress tw_256 rfl (by decide) (by decide) (by decide) cE_Player rfl rfl rfl rfl (Nat.le_of_ble_eq_true rfl) d_Player_doInstruction_90 (gw_bI (P := fun r U => cOK U) (po_ok_Player_nextAddress S1 p1) (fun r90 S90 p90 => ?_))
      refine cp_Player_at (pc := 93) F tw_143 d_Player_doInstruction_93 ?_
      refine gw_nS (fun S93 E93 => ?_)
      refine gw_goto (pc := 96) (tgt := 181) F d_Player_doInstruction_96 (by decide) ?_
      exact gw_vret (pc := 181) F d_Player_doInstruction_181
    refine gw_spl (fun h18_10 => ?_) (fun h18_10 => ?_)
    · refine gw_tableIn (pc := 18) (tgt := 99) F d_Player_doInstruction_18 h18_10 (by decide) (by decide) rfl (by decide) ?_
      refine gw_aload_n (pc := 99) F 1 d_Player_doInstruction_99 rfl rfl ?_
      refine gw_aload_n (pc := 100) F 2 d_Player_doInstruction_100 rfl rfl ?_
      refine gw_cV (pc := 101) (As := [.ref (ad (j + 14))]) (rest := []) F (c_Player_callAddress (gw_FJ F) hj S1) cw_Player_callAddress cv_Player_callAddress tw_260 rfl (by decide) (by decide) (by decide) cE_Player rfl rfl rfl rfl (Nat.le_of_ble_eq_true rfl) d_Player_doInstruction_101 (gw_bV (P := fun _ U => cOK U) (po_ok_Player_callAddress hj S1 p1) (fun _ S101 p101 => ?_))
      refine gw_goto (pc := 104) (tgt := 181) F d_Player_doInstruction_104 (by decide) ?_
      exact gw_vret (pc := 181) F d_Player_doInstruction_181
    refine gw_spl (fun h18_11 => ?_) (fun h18_11 => ?_)
    · refine gw_tableIn (pc := 18) (tgt := 107) F d_Player_doInstruction_18 h18_11 (by decide) (by decide) rfl (by decide) ?_
      refine gw_aload_n (pc := 107) F 1 d_Player_doInstruction_107 rfl rfl ?_
      refine gw_aload_n (pc := 108) F 2 d_Player_doInstruction_108 rfl rfl ?_
      refine gw_cV (pc := 109) (As := [.ref (ad (j + 14))]) (rest := []) F (c_Player_comeBack (gw_FJ F) hj S1) cw_Player_comeBack cv_Player_comeBack tw_276 rfl (by decide) (by decide) (by decide) cE_Player rfl rfl rfl rfl (Nat.le_of_ble_eq_true rfl) d_Player_doInstruction_109 (gw_bV (P := fun _ U => cOK U) (po_ok_Player_comeBack hj S1 p1) (fun _ S109 p109 => ?_))
      refine gw_goto (pc := 112) (tgt := 181) F d_Player_doInstruction_112 (by decide) ?_
      exact gw_vret (pc := 181) F d_Player_doInstruction_181
    refine gw_spl (fun h18_12 => ?_) (fun h18_12 => ?_)
    · refine gw_tableIn (pc := 18) (tgt := 115) F d_Player_doInstruction_18 h18_12 (by decide) (by decide) rfl (by decide) ?_
      refine gw_aload_n (pc := 115) F 1 d_Player_doInstruction_115 rfl rfl ?_
      refine gw_cV (pc := 116) (As := []) (rest := []) F (c_Player_loop (gw_FJ F) S1) cw_Player_loop cv_Player_loop tw_284 rfl (by decide) (by decide) (by decide) cE_Player rfl rfl rfl rfl (Nat.le_of_ble_eq_true rfl) d_Player_doInstruction_116 (gw_bV (P := fun _ U => cOK U) (po_ok_Player_loop S1 p1) (fun _ S116 p116 => ?_))
      refine gw_goto (pc := 119) (tgt := 181) F d_Player_doInstruction_119 (by decide) ?_
      exact gw_vret (pc := 181) F d_Player_doInstruction_181
    refine gw_spl (fun h18_13 => ?_) (fun h18_13 => ?_)
    · refine gw_tableIn (pc := 18) (tgt := 122) F d_Player_doInstruction_18 h18_13 (by decide) (by decide) rfl (by decide) ?_
      refine gw_aload_n (pc := 122) F 1 d_Player_doInstruction_122 rfl rfl ?_
      refine gw_aload_n (pc := 123) F 2 d_Player_doInstruction_123 rfl rfl ?_
      refine gw_cV (pc := 124) (As := [.ref (ad (j + 14))]) (rest := []) F (c_Player_jumpIf (gw_FJ F) hj S1) cw_Player_jumpIf cv_Player_jumpIf tw_288 rfl (by decide) (by decide) (by decide) cE_Player rfl rfl rfl rfl (Nat.le_of_ble_eq_true rfl) d_Player_doInstruction_124 (gw_bV (P := fun _ U => cOK U) (po_ok_Player_jumpIf hj S1 p1) (fun _ S124 p124 => ?_))
      refine gw_goto (pc := 127) (tgt := 181) F d_Player_doInstruction_127 (by decide) ?_
      exact gw_vret (pc := 181) F d_Player_doInstruction_181
    refine gw_spl (fun h18_14 => ?_) (fun h18_14 => ?_)
    · refine gw_tableIn (pc := 18) (tgt := 130) F d_Player_doInstruction_18 h18_14 (by decide) (by decide) rfl (by decide) ?_
      refine gw_aload_n (pc := 130) F 1 d_Player_doInstruction_130 rfl rfl ?_
      refine gw_iconst (pc := 131) (v := (0 : Int32)) F d_Player_doInstruction_131 (by decide) ?_
      refine cp_Player_goingOn (pc := 132) F tw_144 d_Player_doInstruction_132 rfl rfl ?_
      refine gw_nS (fun S132 E132 => ?_)
      refine gw_goto (pc := 135) (tgt := 181) F d_Player_doInstruction_135 (by decide) ?_
      exact gw_vret (pc := 181) F d_Player_doInstruction_181
    refine gw_spl (fun h18_15 => ?_) (fun h18_15 => ?_)
    · refine gw_tableIn (pc := 18) (tgt := 138) F d_Player_doInstruction_18 h18_15 (by decide) (by decide) rfl (by decide) ?_
      refine gw_aload_n (pc := 138) F 1 d_Player_doInstruction_138 rfl rfl ?_
      refine gw_cV (pc := 139) (As := []) (rest := []) F (c_Player_end (gw_FJ F) S1) cw_Player_end cv_Player_end tw_272 rfl (by decide) (by decide) (by decide) cE_Player rfl rfl rfl rfl (Nat.le_of_ble_eq_true rfl) d_Player_doInstruction_139 (gw_bV (P := fun _ U => cOK U) (po_ok_Player_end S1 p1) (fun _ S139 p139 => ?_))
      refine gw_goto (pc := 142) (tgt := 181) F d_Player_doInstruction_142 (by decide) ?_
      exact gw_vret (pc := 181) F d_Player_doInstruction_181
    refine gw_spl (fun h18_16 => ?_) (fun h18_16 => ?_)
    · refine gw_tableIn (pc := 18) (tgt := 145) F d_Player_doInstruction_18 h18_16 (by decide) (by decide) rfl (by decide) ?_
      refine gw_aload_n (pc := 145) F 1 d_Player_doInstruction_145 rfl rfl ?_
      refine gw_cV (pc := 146) (As := []) (rest := []) F (c_Player_startOther (gw_FJ F) S1) cw_Player_startOther cv_Player_startOther tw_299 rfl (by decide) (by decide) (by decide) cE_Player rfl rfl rfl rfl (Nat.le_of_ble_eq_true rfl) d_Player_doInstruction_146 (gw_bV (P := fun _ U => cOK U) (po_ok_Player_startOther S1 p1) (fun _ S146 p146 => ?_))
      refine gw_goto (pc := 149) (tgt := 181) F d_Player_doInstruction_149 (by decide) ?_
      exact gw_vret (pc := 181) F d_Player_doInstruction_181
    refine gw_spl (fun h18_17 => ?_) (fun h18_17 => ?_)
    · refine gw_tableIn (pc := 18) (tgt := 152) F d_Player_doInstruction_18 h18_17 (by decide) (by decide) rfl (by decide) ?_
      refine gw_aload_n (pc := 152) F 1 d_Player_doInstruction_152 rfl rfl ?_
      refine gw_aload_n (pc := 153) F 2 d_Player_doInstruction_153 rfl rfl ?_
      refine gw_cV (pc := 154) (As := [.ref (ad (j + 14))]) (rest := []) F (c_Player_askOfEach (gw_FJ F) hj S1) cw_Player_askOfEach cv_Player_askOfEach tw_303 rfl (by decide) (by decide) (by decide) cE_Player rfl rfl rfl rfl (Nat.le_of_ble_eq_true rfl) d_Player_doInstruction_154 (gw_bV (P := fun _ U => cOK U) (po_ok_Player_askOfEach hj S1 p1) (fun _ S154 p154 => ?_))
      refine gw_goto (pc := 157) (tgt := 181) F d_Player_doInstruction_157 (by decide) ?_
      exact gw_vret (pc := 181) F d_Player_doInstruction_181
    refine gw_spl (fun h18_18 => ?_) (fun h18_18 => ?_)
    · refine gw_tableIn (pc := 18) (tgt := 160) F d_Player_doInstruction_18 h18_18 (by decide) (by decide) rfl (by decide) ?_
      refine gw_aload_n (pc := 160) F 1 d_Player_doInstruction_160 rfl rfl ?_
      refine gw_iload_n (pc := 161) F 0 d_Player_doInstruction_161 rfl rfl ?_
      refine gw_cV (pc := 162) (As := [.int r1]) (rest := []) F (c_Player_handlePages (gw_FJ F) S1 r1 p1) cw_Player_handlePages cv_Player_handlePages tw_307 rfl (by decide) (by decide) (by decide) cE_Player rfl rfl rfl rfl (Nat.le_of_ble_eq_true rfl) d_Player_doInstruction_162 (gw_bV (P := fun _ U => cOK U) (po_ok_Player_handlePages S1 r1 p1) (fun _ S162 p162 => ?_))
      refine gw_goto (pc := 165) (tgt := 181) F d_Player_doInstruction_165 (by decide) ?_
      exact gw_vret (pc := 181) F d_Player_doInstruction_181
    refine gw_spl (fun h18_19 => ?_) (fun h18_19 => ?_)
    · refine gw_tableIn (pc := 18) (tgt := 160) F d_Player_doInstruction_18 h18_19 (by decide) (by decide) rfl (by decide) ?_
      refine gw_aload_n (pc := 160) F 1 d_Player_doInstruction_160 rfl rfl ?_
      refine gw_iload_n (pc := 161) F 0 d_Player_doInstruction_161 rfl rfl ?_
      refine gw_cV (pc := 162) (As := [.int r1]) (rest := []) F (c_Player_handlePages (gw_FJ F) S1 r1 p1) cw_Player_handlePages cv_Player_handlePages tw_307 rfl (by decide) (by decide) (by decide) cE_Player rfl rfl rfl rfl (Nat.le_of_ble_eq_true rfl) d_Player_doInstruction_162 (gw_bV (P := fun _ U => cOK U) (po_ok_Player_handlePages S1 r1 p1) (fun _ S162 p162 => ?_))
      refine gw_goto (pc := 165) (tgt := 181) F d_Player_doInstruction_165 (by decide) ?_
      exact gw_vret (pc := 181) F d_Player_doInstruction_181
    refine gw_spl (fun h18_20 => ?_) (fun h18_20 => ?_)
    · refine gw_tableIn (pc := 18) (tgt := 160) F d_Player_doInstruction_18 h18_20 (by decide) (by decide) rfl (by decide) ?_
      refine gw_aload_n (pc := 160) F 1 d_Player_doInstruction_160 rfl rfl ?_
      refine gw_iload_n (pc := 161) F 0 d_Player_doInstruction_161 rfl rfl ?_
      refine gw_cV (pc := 162) (As := [.int r1]) (rest := []) F (c_Player_handlePages (gw_FJ F) S1 r1 p1) cw_Player_handlePages cv_Player_handlePages tw_307 rfl (by decide) (by decide) (by decide) cE_Player rfl rfl rfl rfl (Nat.le_of_ble_eq_true rfl) d_Player_doInstruction_162 (gw_bV (P := fun _ U => cOK U) (po_ok_Player_handlePages S1 r1 p1) (fun _ S162 p162 => ?_))
      refine gw_goto (pc := 165) (tgt := 181) F d_Player_doInstruction_165 (by decide) ?_
      exact gw_vret (pc := 181) F d_Player_doInstruction_181
    refine gw_spl (fun h18_21 => ?_) (fun h18_21 => ?_)
    · refine gw_tableIn (pc := 18) (tgt := 160) F d_Player_doInstruction_18 h18_21 (by decide) (by decide) rfl (by decide) ?_
      refine gw_aload_n (pc := 160) F 1 d_Player_doInstruction_160 rfl rfl ?_
      refine gw_iload_n (pc := 161) F 0 d_Player_doInstruction_161 rfl rfl ?_
      refine gw_cV (pc := 162) (As := [.int r1]) (rest := []) F (c_Player_handlePages (gw_FJ F) S1 r1 p1) cw_Player_handlePages cv_Player_handlePages tw_307 rfl (by decide) (by decide) (by decide) cE_Player rfl rfl rfl rfl (Nat.le_of_ble_eq_true rfl) d_Player_doInstruction_162 (gw_bV (P := fun _ U => cOK U) (po_ok_Player_handlePages S1 r1 p1) (fun _ S162 p162 => ?_))
      refine gw_goto (pc := 165) (tgt := 181) F d_Player_doInstruction_165 (by decide) ?_
      exact gw_vret (pc := 181) F d_Player_doInstruction_181
    refine gw_spl (fun h18_22 => ?_) (fun h18_22 => ?_)
    · refine gw_tableIn (pc := 18) (tgt := 168) F d_Player_doInstruction_18 h18_22 (by decide) (by decide) rfl (by decide) ?_
      refine gw_aload_n (pc := 168) F 1 d_Player_doInstruction_168 rfl rfl ?_
      refine gw_cV (pc := 169) (As := []) (rest := []) F (c_Player_draw (gw_FJ F) S1 p1) cw_Player_draw cv_Player_draw tw_332 rfl (by decide) (by decide) (by decide) cE_Player rfl rfl rfl rfl (Nat.le_of_ble_eq_true rfl) d_Player_doInstruction_169 (gw_bV (P := fun _ U => cOK U) (po_ok_Player_draw S1 p1) (fun _ S169 p169 => ?_))
      refine gw_goto (pc := 172) (tgt := 181) F d_Player_doInstruction_172 (by decide) ?_
      exact gw_vret (pc := 181) F d_Player_doInstruction_181
    refine gw_tableOut (pc := 18) (tgt := 175) F d_Player_doInstruction_18 (by have ne_9 : ¬ (r1 : Int32).toInt = 9 := gw_ne h18_9; have ne_10 : ¬ (r1 : Int32).toInt = 10 := gw_ne h18_10; have ne_11 : ¬ (r1 : Int32).toInt = 11 := gw_ne h18_11; have ne_12 : ¬ (r1 : Int32).toInt = 12 := gw_ne h18_12; have ne_13 : ¬ (r1 : Int32).toInt = 13 := gw_ne h18_13; have ne_14 : ¬ (r1 : Int32).toInt = 14 := gw_ne h18_14; have ne_15 : ¬ (r1 : Int32).toInt = 15 := gw_ne h18_15; have ne_16 : ¬ (r1 : Int32).toInt = 16 := gw_ne h18_16; have ne_17 : ¬ (r1 : Int32).toInt = 17 := gw_ne h18_17; have ne_18 : ¬ (r1 : Int32).toInt = 18 := gw_ne h18_18; have ne_19 : ¬ (r1 : Int32).toInt = 19 := gw_ne h18_19; have ne_20 : ¬ (r1 : Int32).toInt = 20 := gw_ne h18_20; have ne_21 : ¬ (r1 : Int32).toInt = 21 := gw_ne h18_21; have ne_22 : ¬ (r1 : Int32).toInt = 22 := gw_ne h18_22; omega) (by decide) ?_
    refine gw_aload_n (pc := 175) F 1 d_Player_doInstruction_175 rfl rfl ?_
    refine gw_aload_n (pc := 176) F 2 d_Player_doInstruction_176 rfl rfl ?_
    refine gw_iconst (pc := 177) (v := (5 : Int32)) F d_Player_doInstruction_177 (by decide) ?_
    refine gw_cV (pc := 178) (As := [.ref (ad (j + 14)), .int (5 : Int32)]) (rest := []) F (c_Player_fail (gw_FJ F) hj S1 (5 : Int32)) cw_Player_fail cv_Player_fail tw_268 rfl (by decide) (by decide) (by decide) cE_Player rfl rfl rfl rfl (Nat.le_of_ble_eq_true rfl) d_Player_doInstruction_178 (gw_bV (P := fun _ U => cOK U) (po_ok_Player_fail hj S1 (5 : Int32) p1) (fun _ S178 p178 => ?_))
    exact gw_vret (pc := 181) F d_Player_doInstruction_181
  · refine gw_aload_n (pc := 11) F 1 d_Player_doInstruction_11 rfl rfl ?_
    refine gw_iload_n (pc := 12) F 0 d_Player_doInstruction_12 rfl rfl ?_
    refine gw_cV (pc := 13) (As := [.int r1]) (rest := []) F (c_Player_compute (gw_FJ F) S1 r1) cw_Player_compute cv_Player_compute tw_232 rfl (by decide) (by decide) (by decide) cE_Player rfl rfl rfl rfl (Nat.le_of_ble_eq_true rfl) d_Player_doInstruction_13 (gw_bV (P := fun _ U => cOK U) (po_ok_Player_compute S1 r1 p1) (fun _ S13 p13 => ?_))
    exact gw_vret (pc := 16) F d_Player_doInstruction_16
set_option maxHeartbeats 4000000 in
set_option maxRecDepth 100000 in
theorem po_ok_Player_doInstruction  {j : Nat} (hj : j < 16) (S : gw_S)  (hf_ok : cOK S) : cOK (f_Player_doInstruction j S).2 := by
  unfold f_Player_doInstruction
  refine po_b (Φ := fun p : Unit × gw_S => cOK p.2) (P := fun r U => cOK U) (po_ok_Player_nextByte S hf_ok) (fun r1 S1 p1 => ?_)
  refine po_if (Φ := fun p : Unit × gw_S => cOK p.2) (fun h8 => ?_) (fun h8 => ?_)
  · refine po_if (Φ := fun p : Unit × gw_S => cOK p.2) (fun h18_9 => ?_) (fun h18_9 => ?_)
    · refine po_b (Φ := fun p : Unit × gw_S => cOK p.2) (P := fun r U => cOK U) (po_ok_Player_nextAddress S1 p1) (fun r90 S90 p90 => ?_)
      refine po_n (Φ := fun p : Unit × gw_S => cOK p.2) (fun S93 E93 => ?_)
      exact (cOK_o E93 p90 (by omega))
    refine po_if (Φ := fun p : Unit × gw_S => cOK p.2) (fun h18_10 => ?_) (fun h18_10 => ?_)
    · refine po_b (Φ := fun p : Unit × gw_S => cOK p.2) (P := fun _ U => cOK U) (po_ok_Player_callAddress hj S1 p1) (fun _ S101 p101 => ?_)
      exact p101
    refine po_if (Φ := fun p : Unit × gw_S => cOK p.2) (fun h18_11 => ?_) (fun h18_11 => ?_)
    · refine po_b (Φ := fun p : Unit × gw_S => cOK p.2) (P := fun _ U => cOK U) (po_ok_Player_comeBack hj S1 p1) (fun _ S109 p109 => ?_)
      exact p109
    refine po_if (Φ := fun p : Unit × gw_S => cOK p.2) (fun h18_12 => ?_) (fun h18_12 => ?_)
    · refine po_b (Φ := fun p : Unit × gw_S => cOK p.2) (P := fun _ U => cOK U) (po_ok_Player_loop S1 p1) (fun _ S116 p116 => ?_)
      exact p116
    refine po_if (Φ := fun p : Unit × gw_S => cOK p.2) (fun h18_13 => ?_) (fun h18_13 => ?_)
    · refine po_b (Φ := fun p : Unit × gw_S => cOK p.2) (P := fun _ U => cOK U) (po_ok_Player_jumpIf hj S1 p1) (fun _ S124 p124 => ?_)
      exact p124
    refine po_if (Φ := fun p : Unit × gw_S => cOK p.2) (fun h18_14 => ?_) (fun h18_14 => ?_)
    · refine po_n (Φ := fun p : Unit × gw_S => cOK p.2) (fun S132 E132 => ?_)
      exact (cOK_o E132 p1 (by omega))
    refine po_if (Φ := fun p : Unit × gw_S => cOK p.2) (fun h18_15 => ?_) (fun h18_15 => ?_)
    · refine po_b (Φ := fun p : Unit × gw_S => cOK p.2) (P := fun _ U => cOK U) (po_ok_Player_end S1 p1) (fun _ S139 p139 => ?_)
      exact p139
    refine po_if (Φ := fun p : Unit × gw_S => cOK p.2) (fun h18_16 => ?_) (fun h18_16 => ?_)
    · refine po_b (Φ := fun p : Unit × gw_S => cOK p.2) (P := fun _ U => cOK U) (po_ok_Player_startOther S1 p1) (fun _ S146 p146 => ?_)
      exact p146
    refine po_if (Φ := fun p : Unit × gw_S => cOK p.2) (fun h18_17 => ?_) (fun h18_17 => ?_)
    · refine po_b (Φ := fun p : Unit × gw_S => cOK p.2) (P := fun _ U => cOK U) (po_ok_Player_askOfEach hj S1 p1) (fun _ S154 p154 => ?_)
      exact p154
    refine po_if (Φ := fun p : Unit × gw_S => cOK p.2) (fun h18_18 => ?_) (fun h18_18 => ?_)
    · refine po_b (Φ := fun p : Unit × gw_S => cOK p.2) (P := fun _ U => cOK U) (po_ok_Player_handlePages S1 r1 p1) (fun _ S162 p162 => ?_)
      exact p162
    refine po_if (Φ := fun p : Unit × gw_S => cOK p.2) (fun h18_19 => ?_) (fun h18_19 => ?_)
    · refine po_b (Φ := fun p : Unit × gw_S => cOK p.2) (P := fun _ U => cOK U) (po_ok_Player_handlePages S1 r1 p1) (fun _ S162 p162 => ?_)
      exact p162
    refine po_if (Φ := fun p : Unit × gw_S => cOK p.2) (fun h18_20 => ?_) (fun h18_20 => ?_)
    · refine po_b (Φ := fun p : Unit × gw_S => cOK p.2) (P := fun _ U => cOK U) (po_ok_Player_handlePages S1 r1 p1) (fun _ S162 p162 => ?_)
      exact p162
    refine po_if (Φ := fun p : Unit × gw_S => cOK p.2) (fun h18_21 => ?_) (fun h18_21 => ?_)
    · refine po_b (Φ := fun p : Unit × gw_S => cOK p.2) (P := fun _ U => cOK U) (po_ok_Player_handlePages S1 r1 p1) (fun _ S162 p162 => ?_)
      exact p162
    refine po_if (Φ := fun p : Unit × gw_S => cOK p.2) (fun h18_22 => ?_) (fun h18_22 => ?_)
    · refine po_b (Φ := fun p : Unit × gw_S => cOK p.2) (P := fun _ U => cOK U) (po_ok_Player_draw S1 p1) (fun _ S169 p169 => ?_)
      exact p169
    refine po_b (Φ := fun p : Unit × gw_S => cOK p.2) (P := fun _ U => cOK U) (po_ok_Player_fail hj S1 (5 : Int32) p1) (fun _ S178 p178 => ?_)
    exact p178
  · refine po_b (Φ := fun p : Unit × gw_S => cOK p.2) (P := fun _ U => cOK U) (po_ok_Player_compute S1 r1 p1) (fun _ S13 p13 => ?_)
    exact p13
def fl_Player_takeTurn_18   (j : Nat) (a2 : Int32) (n : Nat) : gw_S → Int32 → Int32 → Int32 × gw_S := gw_L2 (fun self S x3 x4 => (if a2 ≤ x4 then (gw_n (gw_u S (j + 14) 2 (S 1 4)) fun S50 => (x3, S50)) else (if (S 1 5) = 0 then (gw_n (gw_u S (j + 14) 2 (S 1 4)) fun S50 => (x3, S50)) else (gw_b (f_Player_doInstruction j S) fun _ S33 => (self S33 (x3 + (1 : Int32)) (x4 + (1 : Int32))))))) (fun S _ _ => (0, S)) n
set_option maxHeartbeats 4000000 in
set_option maxRecDepth 100000 in
theorem l_Player_takeTurn_18 {X : gx_M} {A : Nat → Prop}  (F : gw_F X l prog_6_method_2_code 5 (some .int) "StageMachine$Player" gTs (gw_rm 18) D gCl (gTys cI cB cC cZ) 46 ad A) {j : Nat} (hj : j < 16) (a2 : Int32) : ∀ (n : Nat) (S : gw_S) (x3 x4 : Int32), 0 < n → (a2 : Int32).toInt - x4.toInt < (n : Int) → cOK S → gw_V X (gw_P D gCl 46 ad (cE ad cI cB cC)) A 5 gw_rI S 18 [(0, .ref (ad 1)), (1, .ref (ad (j + 14))), (2, .int a2), (3, .int x3), (4, .int x4)] [] (fl_Player_takeTurn_18 j a2 n S x3 x4) := by
  intro n
  induction n with
  | zero => intro S x3 x4 hn hf hf_ok; exact absurd hn (Nat.lt_irrefl 0)
  | succ n ih =>
    intro S x3 x4 hn hf hf_ok
    refine gw_iload (pc := 18) F 4 d_Player_takeTurn_18 rfl ?_
    refine gw_iload_n (pc := 20) F 2 d_Player_takeTurn_20 rfl rfl ?_
    refine gw_icmp_geS (pc := 21) (tgt := 45) F d_Player_takeTurn_21 (by decide) (fun h21 => ?_) (fun h21 => ?_)
    · refine gw_aload_n (pc := 45) F 1 d_Player_takeTurn_45 rfl rfl ?_
      refine gw_aload_n (pc := 46) F 0 d_Player_takeTurn_46 rfl rfl ?_
      refine cg_Player_at (pc := 47) F tw_143 d_Player_takeTurn_47 ?_
      refine cpN_Channel_address (pc := 50) F hj tw_108 d_Player_takeTurn_50 ?_
      refine gw_nS (fun S50 E50 => ?_)
      refine gw_iload_n (pc := 53) F 3 d_Player_takeTurn_53 rfl rfl ?_
      exact gw_iret (pc := 54) F d_Player_takeTurn_54
    · refine gw_aload_n (pc := 24) F 0 d_Player_takeTurn_24 rfl rfl ?_
      refine cg_Player_goingOn (pc := 25) F tw_144 d_Player_takeTurn_25 ?_
      refine gw_if_eqS (pc := 28) (tgt := 45) F d_Player_takeTurn_28 (by decide) (fun h28 => ?_) (fun h28 => ?_)
      · refine gw_aload_n (pc := 45) F 1 d_Player_takeTurn_45 rfl rfl ?_
        refine gw_aload_n (pc := 46) F 0 d_Player_takeTurn_46 rfl rfl ?_
        refine cg_Player_at (pc := 47) F tw_143 d_Player_takeTurn_47 ?_
        refine cpN_Channel_address (pc := 50) F hj tw_108 d_Player_takeTurn_50 ?_
        refine gw_nS (fun S50 E50 => ?_)
        refine gw_iload_n (pc := 53) F 3 d_Player_takeTurn_53 rfl rfl ?_
        exact gw_iret (pc := 54) F d_Player_takeTurn_54
      · refine gw_aload_n (pc := 31) F 0 d_Player_takeTurn_31 rfl rfl ?_
        refine gw_aload_n (pc := 32) F 1 d_Player_takeTurn_32 rfl rfl ?_
        refine gw_cV (pc := 33) (As := [.ref (ad (j + 14))]) (rest := []) F (c_Player_doInstruction (gw_FJ F) hj S hf_ok) cw_Player_doInstruction cv_Player_doInstruction tw_223 rfl (by decide) (by decide) (by decide) cE_Player rfl rfl rfl rfl (Nat.le_of_ble_eq_true rfl) d_Player_takeTurn_33 (gw_bV (P := fun _ U => cOK U) (po_ok_Player_doInstruction hj S hf_ok) (fun _ S33 p33 => ?_))
        refine gw_iinc (pc := 36) (v := (x3 + (1 : Int32))) (lv' := [(3, .int (x3 + (1 : Int32))), (0, .ref (ad 1)), (1, .ref (ad (j + 14))), (2, .int a2), (4, .int x4)]) F 3 d_Player_takeTurn_36 rfl (congrArg (HAdd.hAdd x3) (by decide)) (by decide) rfl ?_
        refine gw_iinc (pc := 39) (v := (x4 + (1 : Int32))) (lv' := [(4, .int (x4 + (1 : Int32))), (3, .int (x3 + (1 : Int32))), (0, .ref (ad 1)), (1, .ref (ad (j + 14))), (2, .int a2)]) F 4 d_Player_takeTurn_39 rfl (congrArg (HAdd.hAdd x4) (by decide)) (by decide) rfl ?_
        refine gw_goto (pc := 42) (tgt := 18) F d_Player_takeTurn_42 (by decide) ?_
        refine gw_lvs (lv' := [(0, .ref (ad 1)), (1, .ref (ad (j + 14))), (2, .int a2), (3, .int (x3 + (1 : Int32))), (4, .int (x4 + (1 : Int32)))]) [2, 3, 4, 1, 0] rfl ?_
        exact ih S33 (x3 + (1 : Int32)) (x4 + (1 : Int32)) (gw_stp h21 hf).1 (gw_stp h21 hf).2.1 p33
def f_Player_takeTurn  (j : Nat) (S : gw_S) (a2 : Int32) : Int32 × gw_S := (gw_n (gw_u S 1 4 (S (j + 14) 2)) fun S5 => gw_n (gw_u S5 1 5 (1 : Int32)) fun S10 => (fl_Player_takeTurn_18 j a2 (((a2 : Int32).toInt - ((0 : Int32) : Int32).toInt).toNat + 1) S10 (0 : Int32) (0 : Int32)))
set_option maxHeartbeats 4000000 in
set_option maxRecDepth 100000 in
theorem c_Player_takeTurn (hJ : gw_J 46 ad)  {j : Nat} (hj : j < 16) (S : gw_S) (a2 : Int32) (hf_ok : cOK S) : gw_M l y_Player_takeTurn prog_6_method_2_code 5 (some .int) gTs (gw_rm 18) D gCl (gTys cI cB cC cZ) 46 ad (cE ad cI cB cC) gw_rI [.ref (ad 1), .ref (ad (j + 14)), .int a2] S (f_Player_takeTurn j S a2) := by
  refine gw_start gTs_ok (plainFor_of_name (by decide)) hJ (Nat.le_of_ble_eq_true rfl) (fun X A F => ?_)
  refine gw_lve (lv' := [(0, .ref (ad 1)), (1, .ref (ad (j + 14))), (2, .int a2)]) rfl ?_
  unfold f_Player_takeTurn
  refine gw_aload_n (pc := 0) F 0 d_Player_takeTurn_0 rfl rfl ?_
  refine gw_aload_n (pc := 1) F 1 d_Player_takeTurn_1 rfl rfl ?_
  refine cgN_Channel_address (pc := 2) F hj tw_108 d_Player_takeTurn_2 ?_
  refine cp_Player_at (pc := 5) F tw_143 d_Player_takeTurn_5 ?_
  refine gw_nS (fun S5 E5 => ?_)
  refine gw_aload_n (pc := 8) F 0 d_Player_takeTurn_8 rfl rfl ?_
  refine gw_iconst (pc := 9) (v := (1 : Int32)) F d_Player_takeTurn_9 (by decide) ?_
  refine cp_Player_goingOn (pc := 10) F tw_144 d_Player_takeTurn_10 rfl rfl ?_
  refine gw_nS (fun S10 E10 => ?_)
  refine gw_iconst (pc := 13) (v := (0 : Int32)) F d_Player_takeTurn_13 (by decide) ?_
  refine gw_istore_n (pc := 14) (lv' := [(3, .int (0 : Int32)), (0, .ref (ad 1)), (1, .ref (ad (j + 14))), (2, .int a2)]) F d_Player_takeTurn_14 rfl (by decide) rfl ?_
  refine gw_iconst (pc := 15) (v := (0 : Int32)) F d_Player_takeTurn_15 (by decide) ?_
  refine gw_istore (pc := 16) (lv' := [(4, .int (0 : Int32)), (3, .int (0 : Int32)), (0, .ref (ad 1)), (1, .ref (ad (j + 14))), (2, .int a2)]) F d_Player_takeTurn_16 (by decide) rfl ?_
  refine gw_lvs (lv' := [(0, .ref (ad 1)), (1, .ref (ad (j + 14))), (2, .int a2), (3, .int (0 : Int32)), (4, .int (0 : Int32))]) [2, 3, 4, 1, 0] rfl ?_
  exact l_Player_takeTurn_18  F hj a2  (((a2 : Int32).toInt - ((0 : Int32) : Int32).toInt).toNat + 1) S10 (0 : Int32) (0 : Int32) (Nat.succ_pos _) (gw_ent _) (cOK_o E10 (cOK_o E5 hf_ok (by omega)) (by omega))
set_option maxHeartbeats 4000000 in
set_option maxRecDepth 100000 in
theorem pl_ok_Player_takeTurn_18  {j : Nat} (hj : j < 16) (a2 : Int32) : ∀ (n : Nat) (S : gw_S) (x3 x4 : Int32), 0 < n → (a2 : Int32).toInt - x4.toInt < (n : Int) → cOK S → cOK (fl_Player_takeTurn_18 j a2 n S x3 x4).2 := by
  intro n
  induction n with
  | zero => intro S x3 x4 hn hf hf_ok; exact absurd hn (Nat.lt_irrefl 0)
  | succ n ih =>
    intro S x3 x4 hn hf hf_ok
    refine po_if (Φ := fun p : Int32 × gw_S => cOK p.2) (fun h21 => ?_) (fun h21 => ?_)
    · refine po_n (Φ := fun p : Int32 × gw_S => cOK p.2) (fun S50 E50 => ?_)
      exact (cOK_o E50 hf_ok (by omega))
    · refine po_if (Φ := fun p : Int32 × gw_S => cOK p.2) (fun h28 => ?_) (fun h28 => ?_)
      · refine po_n (Φ := fun p : Int32 × gw_S => cOK p.2) (fun S50 E50 => ?_)
        exact (cOK_o E50 hf_ok (by omega))
      · refine po_b (Φ := fun p : Int32 × gw_S => cOK p.2) (P := fun _ U => cOK U) (po_ok_Player_doInstruction hj S hf_ok) (fun _ S33 p33 => ?_)
        exact ih S33 (x3 + (1 : Int32)) (x4 + (1 : Int32)) (gw_stp h21 hf).1 (gw_stp h21 hf).2.1 p33
set_option maxHeartbeats 4000000 in
set_option maxRecDepth 100000 in
theorem po_ok_Player_takeTurn  {j : Nat} (hj : j < 16) (S : gw_S) (a2 : Int32) (hf_ok : cOK S) : cOK (f_Player_takeTurn j S a2).2 := by
  unfold f_Player_takeTurn
  refine po_n (Φ := fun p : Int32 × gw_S => cOK p.2) (fun S5 E5 => ?_)
  refine po_n (Φ := fun p : Int32 × gw_S => cOK p.2) (fun S10 E10 => ?_)
  exact pl_ok_Player_takeTurn_18 hj a2  (((a2 : Int32).toInt - ((0 : Int32) : Int32).toInt).toNat + 1) S10 (0 : Int32) (0 : Int32) (Nat.succ_pos _) (gw_ent _) (cOK_o E10 (cOK_o E5 hf_ok (by omega)) (by omega))
def fl_SM_frame_69   (a1 : Int32) (n : Nat) : gw_S → Int32 → Int32 → Int32 × gw_S := gw_L2 (fun self S x2 x3 => (if (16 : Int32) ≤ x3 then ((x2, S)) else (gw_b (f_Channel_isRunning (x3 : Int32).toNatClampNeg S) fun r84 S84 => if r84 = 0 then (self S84 x2 (x3 + (1 : Int32))) else (gw_b (f_Player_takeTurn (x3 : Int32).toNatClampNeg S84 a1) fun r109 S109 => gw_n (gw_u S109 0 2 ((S84 0 2) + r109)) fun S113 => (self S113 (x2 + (1 : Int32)) (x3 + (1 : Int32))))))) (fun S _ _ => (0, S)) n
set_option maxHeartbeats 4000000 in
set_option maxRecDepth 100000 in
theorem l_SM_frame_69 {X : gx_M} {A : Nat → Prop}  (F : gw_F X l prog_1_method_7_code 4 (some .int) "StageMachine" gTs (gw_rm 19) D gCl (gTys cI cB cC cZ) 46 ad A) (a1 : Int32) : ∀ (n : Nat) (S : gw_S) (x2 x3 : Int32), 0 < n → ((16 : Int32) : Int32).toInt - x3.toInt < (n : Int) → 0 ≤ x3.toInt → cOK S → gw_V X (gw_P D gCl 46 ad (cE ad cI cB cC)) A 4 gw_rI S 69 [(0, .ref (ad 0)), (1, .int a1), (2, .int x2), (3, .int x3)] [] (fl_SM_frame_69 a1 n S x2 x3) := by
  intro n
  induction n with
  | zero => intro S x2 x3 hn hf h0 hf_ok; exact absurd hn (Nat.lt_irrefl 0)
  | succ n ih =>
    intro S x2 x3 hn hf h0 hf_ok
    refine gw_iload_n (pc := 69) F 3 d_SM_frame_69 rfl rfl ?_
    refine gw_bipush (pc := 70) (v := (16 : Int32)) F d_SM_frame_70 (by decide) ?_
    refine gw_icmp_geS (pc := 72) (tgt := 125) F d_SM_frame_72 (by decide) (fun h72 => ?_) (fun h72 => ?_)
    · refine gw_iload_n (pc := 125) F 2 d_SM_frame_125 rfl rfl ?_
      exact gw_iret (pc := 126) F d_SM_frame_126
    · refine gw_aload_n (pc := 75) F 0 d_SM_frame_75 rfl rfl ?_
      refine cg_SM_player (pc := 76) F tw_158 d_SM_frame_76 ?_
      refine cgN_Player_channels (pc := 79) F tw_140 d_SM_frame_79 ?_
      refine gw_iload_n (pc := 82) F 3 d_SM_frame_82 rfl rfl ?_
      refine cl_Chans (pc := 83) F (gw_inB (N := 16) (by decide) h72 h0) d_SM_frame_83 ?_
      refine gw_cV (pc := 84) (As := []) (rest := []) F (c_Channel_isRunning (gw_FJ F) (gw_inlt (gw_inB (N := 16) (by decide) h72 h0)) S) cw_Channel_isRunning cv_Channel_isRunning tw_215 rfl (by decide) (by decide) (chi_Channel (gw_inlt (gw_inB (N := 16) (by decide) h72 h0))) (cE_Channel (gw_inlt (gw_inB (N := 16) (by decide) h72 h0))) rfl rfl rfl rfl (Nat.le_of_ble_eq_true rfl) d_SM_frame_84 (gw_bI (P := fun r U => cOK U) (po_ok_Channel_isRunning (gw_inlt (gw_inB (N := 16) (by decide) h72 h0)) S hf_ok) (fun r84 S84 p84 => ?_))
      refine gw_if_eqS (pc := 87) (tgt := 119) F d_SM_frame_87 (by decide) (fun h87 => ?_) (fun h87 => ?_)
      · refine gw_iinc (pc := 119) (v := (x3 + (1 : Int32))) (lv' := [(3, .int (x3 + (1 : Int32))), (0, .ref (ad 0)), (1, .int a1), (2, .int x2)]) F 3 d_SM_frame_119 rfl (congrArg (HAdd.hAdd x3) (by decide)) (by decide) rfl ?_
        refine gw_goto (pc := 122) (tgt := 69) F d_SM_frame_122 (by decide) ?_
        refine gw_lvs (lv' := [(0, .ref (ad 0)), (1, .int a1), (2, .int x2), (3, .int (x3 + (1 : Int32)))]) [1, 2, 3, 0] rfl ?_
        exact ih S84 x2 (x3 + (1 : Int32)) (gw_stp h72 hf).1 (gw_stp h72 hf).2.1 (gw_stp0 h72 h0) p84
      · refine gw_aload_n (pc := 90) F 0 d_SM_frame_90 rfl rfl ?_
        refine gw_dup (pc := 91) F d_SM_frame_91 rfl ?_
        refine cg_SM_instructionsDone (pc := 92) F tw_160 d_SM_frame_92 ?_
        refine gw_aload_n (pc := 95) F 0 d_SM_frame_95 rfl rfl ?_
        refine cg_SM_player (pc := 96) F tw_158 d_SM_frame_96 ?_
        refine gw_aload_n (pc := 99) F 0 d_SM_frame_99 rfl rfl ?_
        refine cg_SM_player (pc := 100) F tw_158 d_SM_frame_100 ?_
        refine cgN_Player_channels (pc := 103) F tw_140 d_SM_frame_103 ?_
        refine gw_iload_n (pc := 106) F 3 d_SM_frame_106 rfl rfl ?_
        refine cl_Chans (pc := 107) F (gw_inB (N := 16) (by decide) h72 h0) d_SM_frame_107 ?_
        refine gw_iload_n (pc := 108) F 1 d_SM_frame_108 rfl rfl ?_
        refine gw_cV (pc := 109) (As := [.ref (ad ((x3 : Int32).toNatClampNeg + 14)), .int a1]) (rest := [.int (S84 0 2), .ref (ad 0)]) F (c_Player_takeTurn (gw_FJ F) (gw_inlt (gw_inB (N := 16) (by decide) h72 h0)) S84 a1 p84) cw_Player_takeTurn cv_Player_takeTurn tw_219 rfl (by decide) (by decide) (by decide) cE_Player rfl rfl rfl rfl (Nat.le_of_ble_eq_true rfl) d_SM_frame_109 (gw_bI (P := fun r U => cOK U) (po_ok_Player_takeTurn (gw_inlt (gw_inB (N := 16) (by decide) h72 h0)) S84 a1 p84) (fun r109 S109 p109 => ?_))
        refine gw_iadd (pc := 112) F d_SM_frame_112 ?_
        refine cp_SM_instructionsDone (pc := 113) F tw_160 d_SM_frame_113 ?_
        refine gw_nS (fun S113 E113 => ?_)
        refine gw_iinc (pc := 116) (v := (x2 + (1 : Int32))) (lv' := [(2, .int (x2 + (1 : Int32))), (0, .ref (ad 0)), (1, .int a1), (3, .int x3)]) F 2 d_SM_frame_116 rfl (congrArg (HAdd.hAdd x2) (by decide)) (by decide) rfl ?_
        refine gw_iinc (pc := 119) (v := (x3 + (1 : Int32))) (lv' := [(3, .int (x3 + (1 : Int32))), (2, .int (x2 + (1 : Int32))), (0, .ref (ad 0)), (1, .int a1)]) F 3 d_SM_frame_119 rfl (congrArg (HAdd.hAdd x3) (by decide)) (by decide) rfl ?_
        refine gw_goto (pc := 122) (tgt := 69) F d_SM_frame_122 (by decide) ?_
        refine gw_lvs (lv' := [(0, .ref (ad 0)), (1, .int a1), (2, .int (x2 + (1 : Int32))), (3, .int (x3 + (1 : Int32)))]) [2, 3, 1, 0] rfl ?_
        exact ih S113 (x2 + (1 : Int32)) (x3 + (1 : Int32)) (gw_stp h72 hf).1 (gw_stp h72 hf).2.1 (gw_stp0 h72 h0) (cOK_o E113 p109 (by omega))
def fl_SM_frame_41   (a1 : Int32) (n : Nat) : gw_S → Int32 → Int32 × gw_S := gw_L1 (fun self S x2 => (if (16 : Int32) ≤ x2 then (fl_SM_frame_69 a1 ((((16 : Int32) : Int32).toInt - ((0 : Int32) : Int32).toInt).toNat + 1) S (0 : Int32) (0 : Int32)) else (gw_b (f_Channel_settleAsked (x2 : Int32).toNatClampNeg S) fun _ S56 => (self S56 (x2 + (1 : Int32)))))) (fun S _ => (0, S)) n
set_option maxHeartbeats 4000000 in
set_option maxRecDepth 100000 in
theorem l_SM_frame_41 {X : gx_M} {A : Nat → Prop}  (F : gw_F X l prog_1_method_7_code 4 (some .int) "StageMachine" gTs (gw_rm 19) D gCl (gTys cI cB cC cZ) 46 ad A) (a1 : Int32) : ∀ (n : Nat) (S : gw_S) (x2 : Int32), 0 < n → ((16 : Int32) : Int32).toInt - x2.toInt < (n : Int) → 0 ≤ x2.toInt → cOK S → gw_V X (gw_P D gCl 46 ad (cE ad cI cB cC)) A 4 gw_rI S 41 [(0, .ref (ad 0)), (1, .int a1), (2, .int x2)] [] (fl_SM_frame_41 a1 n S x2) := by
  intro n
  induction n with
  | zero => intro S x2 hn hf h0 hf_ok; exact absurd hn (Nat.lt_irrefl 0)
  | succ n ih =>
    intro S x2 hn hf h0 hf_ok
    refine gw_iload_n (pc := 41) F 2 d_SM_frame_41 rfl rfl ?_
    refine gw_bipush (pc := 42) (v := (16 : Int32)) F d_SM_frame_42 (by decide) ?_
    refine gw_icmp_geS (pc := 44) (tgt := 65) F d_SM_frame_44 (by decide) (fun h44 => ?_) (fun h44 => ?_)
    · refine gw_iconst (pc := 65) (v := (0 : Int32)) F d_SM_frame_65 (by decide) ?_
      refine gw_istore_n (pc := 66) (lv' := [(2, .int (0 : Int32)), (0, .ref (ad 0)), (1, .int a1)]) F d_SM_frame_66 rfl (by decide) rfl ?_
      refine gw_iconst (pc := 67) (v := (0 : Int32)) F d_SM_frame_67 (by decide) ?_
      refine gw_istore_n (pc := 68) (lv' := [(3, .int (0 : Int32)), (2, .int (0 : Int32)), (0, .ref (ad 0)), (1, .int a1)]) F d_SM_frame_68 rfl (by decide) rfl ?_
      refine gw_lvs (lv' := [(0, .ref (ad 0)), (1, .int a1), (2, .int (0 : Int32)), (3, .int (0 : Int32))]) [2, 3, 1, 0] rfl ?_
      exact l_SM_frame_69  F a1  ((((16 : Int32) : Int32).toInt - ((0 : Int32) : Int32).toInt).toNat + 1) S (0 : Int32) (0 : Int32) (Nat.succ_pos _) (gw_ent _) (by decide) hf_ok
    · refine gw_aload_n (pc := 47) F 0 d_SM_frame_47 rfl rfl ?_
      refine cg_SM_player (pc := 48) F tw_158 d_SM_frame_48 ?_
      refine cgN_Player_channels (pc := 51) F tw_140 d_SM_frame_51 ?_
      refine gw_iload_n (pc := 54) F 2 d_SM_frame_54 rfl rfl ?_
      refine cl_Chans (pc := 55) F (gw_inB (N := 16) (by decide) h44 h0) d_SM_frame_55 ?_
      refine gw_cV (pc := 56) (As := []) (rest := []) F (c_Channel_settleAsked (gw_FJ F) (gw_inlt (gw_inB (N := 16) (by decide) h44 h0)) S) cw_Channel_settleAsked cv_Channel_settleAsked tw_211 rfl (by decide) (by decide) (chi_Channel (gw_inlt (gw_inB (N := 16) (by decide) h44 h0))) (cE_Channel (gw_inlt (gw_inB (N := 16) (by decide) h44 h0))) rfl rfl rfl rfl (Nat.le_of_ble_eq_true rfl) d_SM_frame_56 (gw_bV (P := fun _ U => cOK U) (po_ok_Channel_settleAsked (gw_inlt (gw_inB (N := 16) (by decide) h44 h0)) S hf_ok) (fun _ S56 p56 => ?_))
      refine gw_iinc (pc := 59) (v := (x2 + (1 : Int32))) (lv' := [(2, .int (x2 + (1 : Int32))), (0, .ref (ad 0)), (1, .int a1)]) F 2 d_SM_frame_59 rfl (congrArg (HAdd.hAdd x2) (by decide)) (by decide) rfl ?_
      refine gw_goto (pc := 62) (tgt := 41) F d_SM_frame_62 (by decide) ?_
      refine gw_lvs (lv' := [(0, .ref (ad 0)), (1, .int a1), (2, .int (x2 + (1 : Int32)))]) [1, 2, 0] rfl ?_
      exact ih S56 (x2 + (1 : Int32)) (gw_stp h44 hf).1 (gw_stp h44 hf).2.1 (gw_stp0 h44 h0) p56
def f_SM_frame   (S : gw_S) (a1 : Int32) : Int32 × gw_S := (if a1 < (1 : Int32) then (((-1 : Int32), S)) else (if a1 ≤ (500 : Int32) then (gw_n (gw_u S 0 1 ((S 0 1) + (1 : Int32))) fun S21 => gw_n (gw_u S21 0 2 (0 : Int32)) fun S26 => gw_b (f_Painter_forgetCounts S26) fun _ S36 => (fl_SM_frame_41 a1 ((((16 : Int32) : Int32).toInt - ((0 : Int32) : Int32).toInt).toNat + 1) S36 (0 : Int32))) else (((-1 : Int32), S))))
set_option maxHeartbeats 4000000 in
set_option maxRecDepth 100000 in
theorem c_SM_frame (hJ : gw_J 46 ad)   (S : gw_S) (a1 : Int32) (hf_ok : cOK S) : gw_M l y_SM_frame prog_1_method_7_code 4 (some .int) gTs (gw_rm 19) D gCl (gTys cI cB cC cZ) 46 ad (cE ad cI cB cC) gw_rI [.ref (ad 0), .int a1] S (f_SM_frame S a1) := by
  refine gw_start gTs_ok (plainFor_of_name (by decide)) hJ (Nat.le_of_ble_eq_true rfl) (fun X A F => ?_)
  refine gw_lve (lv' := [(0, .ref (ad 0)), (1, .int a1)]) rfl ?_
  unfold f_SM_frame
  refine gw_iload_n (pc := 0) F 1 d_SM_frame_0 rfl rfl ?_
  refine gw_iconst (pc := 1) (v := (1 : Int32)) F d_SM_frame_1 (by decide) ?_
  refine gw_icmp_ltS (pc := 2) (tgt := 12) F d_SM_frame_2 (by decide) (fun h2 => ?_) (fun h2 => ?_)
  · refine gw_iconst (pc := 12) (v := (-1 : Int32)) F d_SM_frame_12 (by decide) ?_
    exact gw_iret (pc := 13) F d_SM_frame_13
  · refine gw_iload_n (pc := 5) F 1 d_SM_frame_5 rfl rfl ?_
    refine gw_sipush (pc := 6) (v := (500 : Int32)) F d_SM_frame_6 (by decide) ?_
    refine gw_icmp_leS (pc := 9) (tgt := 14) F d_SM_frame_9 (by decide) (fun h9 => ?_) (fun h9 => ?_)
    · refine gw_aload_n (pc := 14) F 0 d_SM_frame_14 rfl rfl ?_
      refine gw_dup (pc := 15) F d_SM_frame_15 rfl ?_
      refine cg_SM_frames (pc := 16) F tw_159 d_SM_frame_16 ?_
      refine gw_iconst (pc := 19) (v := (1 : Int32)) F d_SM_frame_19 (by decide) ?_
      refine gw_iadd (pc := 20) F d_SM_frame_20 ?_
      refine cp_SM_frames (pc := 21) F tw_159 d_SM_frame_21 ?_
      refine gw_nS (fun S21 E21 => ?_)
      refine gw_aload_n (pc := 24) F 0 d_SM_frame_24 rfl rfl ?_
      refine gw_iconst (pc := 25) (v := (0 : Int32)) F d_SM_frame_25 (by decide) ?_
      refine cp_SM_instructionsDone (pc := 26) F tw_160 d_SM_frame_26 ?_
      refine gw_nS (fun S26 E26 => ?_)
      refine gw_aload_n (pc := 29) F 0 d_SM_frame_29 rfl rfl ?_
      refine cg_SM_player (pc := 30) F tw_158 d_SM_frame_30 ?_
      refine cgN_Player_painter (pc := 33) F tw_142 d_SM_frame_33 ?_
      refine gw_cV (pc := 36) (As := []) (rest := []) F (c_Painter_forgetCounts (gw_FJ F) S26) cw_Painter_forgetCounts cv_Painter_forgetCounts tw_207 rfl (by decide) (by decide) (by decide) cE_Painter rfl rfl rfl rfl (Nat.le_of_ble_eq_true rfl) d_SM_frame_36 (gw_bV (P := fun _ U => cOK U) (po_ok_Painter_forgetCounts S26 (cOK_o E26 (cOK_o E21 hf_ok (by omega)) (by omega))) (fun _ S36 p36 => ?_))
      refine gw_iconst (pc := 39) (v := (0 : Int32)) F d_SM_frame_39 (by decide) ?_
      refine gw_istore_n (pc := 40) (lv' := [(2, .int (0 : Int32)), (0, .ref (ad 0)), (1, .int a1)]) F d_SM_frame_40 rfl (by decide) rfl ?_
      refine gw_lvs (lv' := [(0, .ref (ad 0)), (1, .int a1), (2, .int (0 : Int32))]) [1, 2, 0] rfl ?_
      exact l_SM_frame_41  F a1  ((((16 : Int32) : Int32).toInt - ((0 : Int32) : Int32).toInt).toNat + 1) S36 (0 : Int32) (Nat.succ_pos _) (gw_ent _) (by decide) p36
    · refine gw_iconst (pc := 12) (v := (-1 : Int32)) F d_SM_frame_12 (by decide) ?_
      exact gw_iret (pc := 13) F d_SM_frame_13
set_option maxHeartbeats 4000000 in
set_option maxRecDepth 100000 in
theorem pl_ok_SM_frame_69  (a1 : Int32) : ∀ (n : Nat) (S : gw_S) (x2 x3 : Int32), 0 < n → ((16 : Int32) : Int32).toInt - x3.toInt < (n : Int) → 0 ≤ x3.toInt → cOK S → cOK (fl_SM_frame_69 a1 n S x2 x3).2 := by
  intro n
  induction n with
  | zero => intro S x2 x3 hn hf h0 hf_ok; exact absurd hn (Nat.lt_irrefl 0)
  | succ n ih =>
    intro S x2 x3 hn hf h0 hf_ok
    refine po_if (Φ := fun p : Int32 × gw_S => cOK p.2) (fun h72 => ?_) (fun h72 => ?_)
    · exact hf_ok
    · refine po_b (Φ := fun p : Int32 × gw_S => cOK p.2) (P := fun r U => cOK U) (po_ok_Channel_isRunning (gw_inlt (gw_inB (N := 16) (by decide) h72 h0)) S hf_ok) (fun r84 S84 p84 => ?_)
      refine po_if (Φ := fun p : Int32 × gw_S => cOK p.2) (fun h87 => ?_) (fun h87 => ?_)
      · exact ih S84 x2 (x3 + (1 : Int32)) (gw_stp h72 hf).1 (gw_stp h72 hf).2.1 (gw_stp0 h72 h0) p84
      · refine po_b (Φ := fun p : Int32 × gw_S => cOK p.2) (P := fun r U => cOK U) (po_ok_Player_takeTurn (gw_inlt (gw_inB (N := 16) (by decide) h72 h0)) S84 a1 p84) (fun r109 S109 p109 => ?_)
        refine po_n (Φ := fun p : Int32 × gw_S => cOK p.2) (fun S113 E113 => ?_)
        exact ih S113 (x2 + (1 : Int32)) (x3 + (1 : Int32)) (gw_stp h72 hf).1 (gw_stp h72 hf).2.1 (gw_stp0 h72 h0) (cOK_o E113 p109 (by omega))
set_option maxHeartbeats 4000000 in
set_option maxRecDepth 100000 in
theorem pl_ok_SM_frame_41  (a1 : Int32) : ∀ (n : Nat) (S : gw_S) (x2 : Int32), 0 < n → ((16 : Int32) : Int32).toInt - x2.toInt < (n : Int) → 0 ≤ x2.toInt → cOK S → cOK (fl_SM_frame_41 a1 n S x2).2 := by
  intro n
  induction n with
  | zero => intro S x2 hn hf h0 hf_ok; exact absurd hn (Nat.lt_irrefl 0)
  | succ n ih =>
    intro S x2 hn hf h0 hf_ok
    refine po_if (Φ := fun p : Int32 × gw_S => cOK p.2) (fun h44 => ?_) (fun h44 => ?_)
    · exact pl_ok_SM_frame_69 a1  ((((16 : Int32) : Int32).toInt - ((0 : Int32) : Int32).toInt).toNat + 1) S (0 : Int32) (0 : Int32) (Nat.succ_pos _) (gw_ent _) (by decide) hf_ok
    · refine po_b (Φ := fun p : Int32 × gw_S => cOK p.2) (P := fun _ U => cOK U) (po_ok_Channel_settleAsked (gw_inlt (gw_inB (N := 16) (by decide) h44 h0)) S hf_ok) (fun _ S56 p56 => ?_)
      exact ih S56 (x2 + (1 : Int32)) (gw_stp h44 hf).1 (gw_stp h44 hf).2.1 (gw_stp0 h44 h0) p56
set_option maxHeartbeats 4000000 in
set_option maxRecDepth 100000 in
theorem po_ok_SM_frame   (S : gw_S) (a1 : Int32) (hf_ok : cOK S) : cOK (f_SM_frame S a1).2 := by
  unfold f_SM_frame
  refine po_if (Φ := fun p : Int32 × gw_S => cOK p.2) (fun h2 => ?_) (fun h2 => ?_)
  · exact hf_ok
  · refine po_if (Φ := fun p : Int32 × gw_S => cOK p.2) (fun h9 => ?_) (fun h9 => ?_)
    · refine po_n (Φ := fun p : Int32 × gw_S => cOK p.2) (fun S21 E21 => ?_)
      refine po_n (Φ := fun p : Int32 × gw_S => cOK p.2) (fun S26 E26 => ?_)
      refine po_b (Φ := fun p : Int32 × gw_S => cOK p.2) (P := fun _ U => cOK U) (po_ok_Painter_forgetCounts S26 (cOK_o E26 (cOK_o E21 hf_ok (by omega)) (by omega))) (fun _ S36 p36 => ?_)
      exact pl_ok_SM_frame_41 a1  ((((16 : Int32) : Int32).toInt - ((0 : Int32) : Int32).toInt).toNat + 1) S36 (0 : Int32) (Nat.succ_pos _) (gw_ent _) (by decide) p36
    · exact hf_ok
end
end
