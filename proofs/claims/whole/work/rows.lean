section
-- ===== PART A: goes FIRST, ahead of the names: the tables' words, and 'selects' of the private methods out of them =====
/-- a private method of a class that the tables say can be made, by its rows of tables_1 -/
def lw_okq (q : MethodName × Nat) : Prop := (q.1.cls ≠ "java/lang/invoke/MethodHandle" ∧ q.1.cls ≠ "java/lang/invoke/VarHandle") ∧ Cond.instantiable q.1.cls q.2 ∈ tables_1 ∧ Cond.privateMethod q.1 ∈ tables_1 ∧ Cond.instanceMethod q.1 ∈ tables_1
theorem lw_p0 : lw_okq (⟨"GateTurns", "isTask", "(I)Z"⟩, 9) := ⟨⟨by decide +kernel, by decide +kernel⟩, List.mem_of_getElem? (i := 21) (by decide +kernel), List.mem_of_getElem? (i := 399) (by decide +kernel), List.mem_of_getElem? (i := 400) (by decide +kernel)⟩
theorem lw_p1 : lw_okq (⟨"GateTurns$Reader", "readStatement", "()V"⟩, 4) := ⟨⟨by decide +kernel, by decide +kernel⟩, List.mem_of_getElem? (i := 127) (by decide +kernel), List.mem_of_getElem? (i := 407) (by decide +kernel), List.mem_of_getElem? (i := 408) (by decide +kernel)⟩
theorem lw_p2 : lw_okq (⟨"GateTurns$Reader", "readWord", "()I"⟩, 4) := ⟨⟨by decide +kernel, by decide +kernel⟩, List.mem_of_getElem? (i := 127) (by decide +kernel), List.mem_of_getElem? (i := 411) (by decide +kernel), List.mem_of_getElem? (i := 412) (by decide +kernel)⟩
theorem lw_p3 : lw_okq (⟨"GateTurns$Reader", "isWord", "(Ljava/lang/String;I)Z"⟩, 4) := ⟨⟨by decide +kernel, by decide +kernel⟩, List.mem_of_getElem? (i := 127) (by decide +kernel), List.mem_of_getElem? (i := 431) (by decide +kernel), List.mem_of_getElem? (i := 432) (by decide +kernel)⟩
theorem lw_p4 : lw_okq (⟨"GateTurns$Reader", "readTarget", "()I"⟩, 4) := ⟨⟨by decide +kernel, by decide +kernel⟩, List.mem_of_getElem? (i := 127) (by decide +kernel), List.mem_of_getElem? (i := 483) (by decide +kernel), List.mem_of_getElem? (i := 484) (by decide +kernel)⟩
theorem lw_p5 : lw_okq (⟨"GateTurns$Reader", "readBlank", "()V"⟩, 4) := ⟨⟨by decide +kernel, by decide +kernel⟩, List.mem_of_getElem? (i := 127) (by decide +kernel), List.mem_of_getElem? (i := 487) (by decide +kernel), List.mem_of_getElem? (i := 488) (by decide +kernel)⟩
theorem lw_p6 : lw_okq (⟨"GateTurns$Reader", "takeFigures", "(I)I"⟩, 4) := ⟨⟨by decide +kernel, by decide +kernel⟩, List.mem_of_getElem? (i := 127) (by decide +kernel), List.mem_of_getElem? (i := 491) (by decide +kernel), List.mem_of_getElem? (i := 492) (by decide +kernel)⟩
theorem lw_p7 : lw_okq (⟨"GateTurns$Reader", "allowed", "(III)I"⟩, 4) := ⟨⟨by decide +kernel, by decide +kernel⟩, List.mem_of_getElem? (i := 127) (by decide +kernel), List.mem_of_getElem? (i := 495) (by decide +kernel), List.mem_of_getElem? (i := 496) (by decide +kernel)⟩
theorem lw_p8 : lw_okq (⟨"GateTurns$Reader", "readFigureBelow", "(I)I"⟩, 4) := ⟨⟨by decide +kernel, by decide +kernel⟩, List.mem_of_getElem? (i := 127) (by decide +kernel), List.mem_of_getElem? (i := 499) (by decide +kernel), List.mem_of_getElem? (i := 500) (by decide +kernel)⟩
theorem lw_p9 : lw_okq (⟨"GateTurns$Reader", "readNumber", "()I"⟩, 4) := ⟨⟨by decide +kernel, by decide +kernel⟩, List.mem_of_getElem? (i := 127) (by decide +kernel), List.mem_of_getElem? (i := 503) (by decide +kernel), List.mem_of_getElem? (i := 504) (by decide +kernel)⟩
theorem lw_p10 : lw_okq (⟨"GateTurns$Trouble", "append", "(II)V"⟩, 3) := ⟨⟨by decide +kernel, by decide +kernel⟩, List.mem_of_getElem? (i := 165) (by decide +kernel), List.mem_of_getElem? (i := 515) (by decide +kernel), List.mem_of_getElem? (i := 516) (by decide +kernel)⟩
theorem lw_p11 : lw_okq (⟨"GateTurns", "takeTruly", "(I)V"⟩, 9) := ⟨⟨by decide +kernel, by decide +kernel⟩, List.mem_of_getElem? (i := 21) (by decide +kernel), List.mem_of_getElem? (i := 539) (by decide +kernel), List.mem_of_getElem? (i := 540) (by decide +kernel)⟩
theorem lw_p12 : lw_okq (⟨"GateTurns$Desk", "end", "(II)V"⟩, 14) := ⟨⟨by decide +kernel, by decide +kernel⟩, List.mem_of_getElem? (i := 29) (by decide +kernel), List.mem_of_getElem? (i := 547) (by decide +kernel), List.mem_of_getElem? (i := 548) (by decide +kernel)⟩
theorem lw_p13 : lw_okq (⟨"GateTurns$Desk", "free", "(I)V"⟩, 14) := ⟨⟨by decide +kernel, by decide +kernel⟩, List.mem_of_getElem? (i := 29) (by decide +kernel), List.mem_of_getElem? (i := 551) (by decide +kernel), List.mem_of_getElem? (i := 552) (by decide +kernel)⟩
theorem lw_p14 : lw_okq (⟨"GateTurns$Desk", "doAtMonitor", "(III)I"⟩, 14) := ⟨⟨by decide +kernel, by decide +kernel⟩, List.mem_of_getElem? (i := 29) (by decide +kernel), List.mem_of_getElem? (i := 562) (by decide +kernel), List.mem_of_getElem? (i := 563) (by decide +kernel)⟩
theorem lw_p15 : lw_okq (⟨"GateTurns$Desk", "enter", "(II)I"⟩, 14) := ⟨⟨by decide +kernel, by decide +kernel⟩, List.mem_of_getElem? (i := 29) (by decide +kernel), List.mem_of_getElem? (i := 566) (by decide +kernel), List.mem_of_getElem? (i := 567) (by decide +kernel)⟩
def lw_privs_1 : List (MethodName × Nat) := [(⟨"GateTurns", "isTask", "(I)Z"⟩, 9), (⟨"GateTurns$Reader", "readStatement", "()V"⟩, 4), (⟨"GateTurns$Reader", "readWord", "()I"⟩, 4), (⟨"GateTurns$Reader", "isWord", "(Ljava/lang/String;I)Z"⟩, 4), (⟨"GateTurns$Reader", "readTarget", "()I"⟩, 4), (⟨"GateTurns$Reader", "readBlank", "()V"⟩, 4), (⟨"GateTurns$Reader", "takeFigures", "(I)I"⟩, 4), (⟨"GateTurns$Reader", "allowed", "(III)I"⟩, 4), (⟨"GateTurns$Reader", "readFigureBelow", "(I)I"⟩, 4), (⟨"GateTurns$Reader", "readNumber", "()I"⟩, 4), (⟨"GateTurns$Trouble", "append", "(II)V"⟩, 3), (⟨"GateTurns", "takeTruly", "(I)V"⟩, 9), (⟨"GateTurns$Desk", "end", "(II)V"⟩, 14), (⟨"GateTurns$Desk", "free", "(I)V"⟩, 14), (⟨"GateTurns$Desk", "doAtMonitor", "(III)I"⟩, 14), (⟨"GateTurns$Desk", "enter", "(II)I"⟩, 14)]
theorem lw_r1 : ∀ q ∈ lw_privs_1, lw_okq q := List.forall_mem_cons.mpr ⟨lw_p0, List.forall_mem_cons.mpr ⟨lw_p1, List.forall_mem_cons.mpr ⟨lw_p2, List.forall_mem_cons.mpr ⟨lw_p3, List.forall_mem_cons.mpr ⟨lw_p4, List.forall_mem_cons.mpr ⟨lw_p5, List.forall_mem_cons.mpr ⟨lw_p6, List.forall_mem_cons.mpr ⟨lw_p7, List.forall_mem_cons.mpr ⟨lw_p8, List.forall_mem_cons.mpr ⟨lw_p9, List.forall_mem_cons.mpr ⟨lw_p10, List.forall_mem_cons.mpr ⟨lw_p11, List.forall_mem_cons.mpr ⟨lw_p12, List.forall_mem_cons.mpr ⟨lw_p13, List.forall_mem_cons.mpr ⟨lw_p14, List.forall_mem_cons.mpr ⟨lw_p15, fun _ h => absurd h List.not_mem_nil⟩⟩⟩⟩⟩⟩⟩⟩⟩⟩⟩⟩⟩⟩⟩⟩
theorem lw_p16 : lw_okq (⟨"GateTurns$Desk", "wake", "(II)V"⟩, 14) := ⟨⟨by decide +kernel, by decide +kernel⟩, List.mem_of_getElem? (i := 29) (by decide +kernel), List.mem_of_getElem? (i := 573) (by decide +kernel), List.mem_of_getElem? (i := 574) (by decide +kernel)⟩
theorem lw_p17 : lw_okq (⟨"GateTurns$Desk", "doWithCells", "(ILGateTurns$Program;I)I"⟩, 14) := ⟨⟨by decide +kernel, by decide +kernel⟩, List.mem_of_getElem? (i := 29) (by decide +kernel), List.mem_of_getElem? (i := 577) (by decide +kernel), List.mem_of_getElem? (i := 578) (by decide +kernel)⟩
theorem lw_p18 : lw_okq (⟨"GateTurns$Search", "begin", "(LGateTurns$Desk;)V"⟩, 15) := ⟨⟨by decide +kernel, by decide +kernel⟩, List.mem_of_getElem? (i := 201) (by decide +kernel), List.mem_of_getElem? (i := 672) (by decide +kernel), List.mem_of_getElem? (i := 673) (by decide +kernel)⟩
theorem lw_p19 : lw_okq (⟨"GateTurns$States", "pack", "(LGateTurns$Desk;)V"⟩, 4) := ⟨⟨by decide +kernel, by decide +kernel⟩, List.mem_of_getElem? (i := 209) (by decide +kernel), List.mem_of_getElem? (i := 692) (by decide +kernel), List.mem_of_getElem? (i := 693) (by decide +kernel)⟩
theorem lw_p20 : lw_okq (⟨"GateTurns$States", "firstSlot", "()I"⟩, 4) := ⟨⟨by decide +kernel, by decide +kernel⟩, List.mem_of_getElem? (i := 209) (by decide +kernel), List.mem_of_getElem? (i := 702) (by decide +kernel), List.mem_of_getElem? (i := 703) (by decide +kernel)⟩
theorem lw_p21 : lw_okq (⟨"GateTurns$States", "isDraft", "(I)Z"⟩, 4) := ⟨⟨by decide +kernel, by decide +kernel⟩, List.mem_of_getElem? (i := 209) (by decide +kernel), List.mem_of_getElem? (i := 707) (by decide +kernel), List.mem_of_getElem? (i := 708) (by decide +kernel)⟩
theorem lw_p22 : lw_okq (⟨"GateTurns$Search", "note", "(IIILGateTurns$Conditions;)V"⟩, 15) := ⟨⟨by decide +kernel, by decide +kernel⟩, List.mem_of_getElem? (i := 201) (by decide +kernel), List.mem_of_getElem? (i := 712) (by decide +kernel), List.mem_of_getElem? (i := 713) (by decide +kernel)⟩
theorem lw_p23 : lw_okq (⟨"GateTurns$Search", "noteOutcome", "()V"⟩, 15) := ⟨⟨by decide +kernel, by decide +kernel⟩, List.mem_of_getElem? (i := 201) (by decide +kernel), List.mem_of_getElem? (i := 725) (by decide +kernel), List.mem_of_getElem? (i := 726) (by decide +kernel)⟩
theorem lw_p24 : lw_okq (⟨"GateTurns$Search", "noteMonitors", "()V"⟩, 15) := ⟨⟨by decide +kernel, by decide +kernel⟩, List.mem_of_getElem? (i := 201) (by decide +kernel), List.mem_of_getElem? (i := 730) (by decide +kernel), List.mem_of_getElem? (i := 731) (by decide +kernel)⟩
theorem lw_p25 : lw_okq (⟨"GateTurnsModel", "isTask", "(I)Z"⟩, 29) := ⟨⟨by decide +kernel, by decide +kernel⟩, List.mem_of_getElem? (i := 834) (by decide +kernel), List.mem_of_getElem? (i := 974) (by decide +kernel), List.mem_of_getElem? (i := 975) (by decide +kernel)⟩
theorem lw_p26 : lw_okq (⟨"GateTurnsModel", "statement1", "(I)V"⟩, 29) := ⟨⟨by decide +kernel, by decide +kernel⟩, List.mem_of_getElem? (i := 834) (by decide +kernel), List.mem_of_getElem? (i := 978) (by decide +kernel), List.mem_of_getElem? (i := 979) (by decide +kernel)⟩
theorem lw_p27 : lw_okq (⟨"GateTurnsModel", "word", "()I"⟩, 29) := ⟨⟨by decide +kernel, by decide +kernel⟩, List.mem_of_getElem? (i := 834) (by decide +kernel), List.mem_of_getElem? (i := 982) (by decide +kernel), List.mem_of_getElem? (i := 983) (by decide +kernel)⟩
theorem lw_p28 : lw_okq (⟨"GateTurnsModel", "here", "()I"⟩, 29) := ⟨⟨by decide +kernel, by decide +kernel⟩, List.mem_of_getElem? (i := 834) (by decide +kernel), List.mem_of_getElem? (i := 986) (by decide +kernel), List.mem_of_getElem? (i := 987) (by decide +kernel)⟩
theorem lw_p29 : lw_okq (⟨"GateTurnsModel", "isWord", "(II)Z"⟩, 29) := ⟨⟨by decide +kernel, by decide +kernel⟩, List.mem_of_getElem? (i := 834) (by decide +kernel), List.mem_of_getElem? (i := 992) (by decide +kernel), List.mem_of_getElem? (i := 993) (by decide +kernel)⟩
theorem lw_p30 : lw_okq (⟨"GateTurnsModel", "must", "(ZI)V"⟩, 29) := ⟨⟨by decide +kernel, by decide +kernel⟩, List.mem_of_getElem? (i := 834) (by decide +kernel), List.mem_of_getElem? (i := 996) (by decide +kernel), List.mem_of_getElem? (i := 997) (by decide +kernel)⟩
theorem lw_p31 : lw_okq (⟨"GateTurnsModel", "number", "(IIZ)I"⟩, 29) := ⟨⟨by decide +kernel, by decide +kernel⟩, List.mem_of_getElem? (i := 834) (by decide +kernel), List.mem_of_getElem? (i := 1000) (by decide +kernel), List.mem_of_getElem? (i := 1001) (by decide +kernel)⟩
def lw_privs_2 : List (MethodName × Nat) := [(⟨"GateTurns$Desk", "wake", "(II)V"⟩, 14), (⟨"GateTurns$Desk", "doWithCells", "(ILGateTurns$Program;I)I"⟩, 14), (⟨"GateTurns$Search", "begin", "(LGateTurns$Desk;)V"⟩, 15), (⟨"GateTurns$States", "pack", "(LGateTurns$Desk;)V"⟩, 4), (⟨"GateTurns$States", "firstSlot", "()I"⟩, 4), (⟨"GateTurns$States", "isDraft", "(I)Z"⟩, 4), (⟨"GateTurns$Search", "note", "(IIILGateTurns$Conditions;)V"⟩, 15), (⟨"GateTurns$Search", "noteOutcome", "()V"⟩, 15), (⟨"GateTurns$Search", "noteMonitors", "()V"⟩, 15), (⟨"GateTurnsModel", "isTask", "(I)Z"⟩, 29), (⟨"GateTurnsModel", "statement1", "(I)V"⟩, 29), (⟨"GateTurnsModel", "word", "()I"⟩, 29), (⟨"GateTurnsModel", "here", "()I"⟩, 29), (⟨"GateTurnsModel", "isWord", "(II)Z"⟩, 29), (⟨"GateTurnsModel", "must", "(ZI)V"⟩, 29), (⟨"GateTurnsModel", "number", "(IIZ)I"⟩, 29)]
theorem lw_r2 : ∀ q ∈ lw_privs_2, lw_okq q := List.forall_mem_cons.mpr ⟨lw_p16, List.forall_mem_cons.mpr ⟨lw_p17, List.forall_mem_cons.mpr ⟨lw_p18, List.forall_mem_cons.mpr ⟨lw_p19, List.forall_mem_cons.mpr ⟨lw_p20, List.forall_mem_cons.mpr ⟨lw_p21, List.forall_mem_cons.mpr ⟨lw_p22, List.forall_mem_cons.mpr ⟨lw_p23, List.forall_mem_cons.mpr ⟨lw_p24, List.forall_mem_cons.mpr ⟨lw_p25, List.forall_mem_cons.mpr ⟨lw_p26, List.forall_mem_cons.mpr ⟨lw_p27, List.forall_mem_cons.mpr ⟨lw_p28, List.forall_mem_cons.mpr ⟨lw_p29, List.forall_mem_cons.mpr ⟨lw_p30, List.forall_mem_cons.mpr ⟨lw_p31, fun _ h => absurd h List.not_mem_nil⟩⟩⟩⟩⟩⟩⟩⟩⟩⟩⟩⟩⟩⟩⟩⟩
theorem lw_p32 : lw_okq (⟨"GateTurnsModel", "takes", "(I)V"⟩, 29) := ⟨⟨by decide +kernel, by decide +kernel⟩, List.mem_of_getElem? (i := 834) (by decide +kernel), List.mem_of_getElem? (i := 1004) (by decide +kernel), List.mem_of_getElem? (i := 1005) (by decide +kernel)⟩
theorem lw_p33 : lw_okq (⟨"GateTurnsModel", "tells", "(IIIII)V"⟩, 29) := ⟨⟨by decide +kernel, by decide +kernel⟩, List.mem_of_getElem? (i := 834) (by decide +kernel), List.mem_of_getElem? (i := 1012) (by decide +kernel), List.mem_of_getElem? (i := 1013) (by decide +kernel)⟩
theorem lw_p34 : lw_okq (⟨"GateTurnsModel", "field", "(III)I"⟩, 29) := ⟨⟨by decide +kernel, by decide +kernel⟩, List.mem_of_getElem? (i := 834) (by decide +kernel), List.mem_of_getElem? (i := 1023) (by decide +kernel), List.mem_of_getElem? (i := 1024) (by decide +kernel)⟩
theorem lw_p35 : lw_okq (⟨"GateTurnsModel", "isReady", "(I)Z"⟩, 29) := ⟨⟨by decide +kernel, by decide +kernel⟩, List.mem_of_getElem? (i := 834) (by decide +kernel), List.mem_of_getElem? (i := 1031) (by decide +kernel), List.mem_of_getElem? (i := 1032) (by decide +kernel)⟩
theorem lw_p36 : lw_okq (⟨"GateTurnsModel", "stepsTruly", "(I)V"⟩, 29) := ⟨⟨by decide +kernel, by decide +kernel⟩, List.mem_of_getElem? (i := 834) (by decide +kernel), List.mem_of_getElem? (i := 1035) (by decide +kernel), List.mem_of_getElem? (i := 1036) (by decide +kernel)⟩
theorem lw_p37 : lw_okq (⟨"GateTurnsModel", "steps", "(I)V"⟩, 29) := ⟨⟨by decide +kernel, by decide +kernel⟩, List.mem_of_getElem? (i := 834) (by decide +kernel), List.mem_of_getElem? (i := 1039) (by decide +kernel), List.mem_of_getElem? (i := 1040) (by decide +kernel)⟩
theorem lw_p38 : lw_okq (⟨"GateTurnsModel", "ends", "(II)V"⟩, 29) := ⟨⟨by decide +kernel, by decide +kernel⟩, List.mem_of_getElem? (i := 834) (by decide +kernel), List.mem_of_getElem? (i := 1043) (by decide +kernel), List.mem_of_getElem? (i := 1044) (by decide +kernel)⟩
theorem lw_p39 : lw_okq (⟨"GateTurnsModel", "isOwner", "(II)Z"⟩, 29) := ⟨⟨by decide +kernel, by decide +kernel⟩, List.mem_of_getElem? (i := 834) (by decide +kernel), List.mem_of_getElem? (i := 1047) (by decide +kernel), List.mem_of_getElem? (i := 1048) (by decide +kernel)⟩
theorem lw_p40 : lw_okq (⟨"GateTurnsModel", "frees", "(I)V"⟩, 29) := ⟨⟨by decide +kernel, by decide +kernel⟩, List.mem_of_getElem? (i := 834) (by decide +kernel), List.mem_of_getElem? (i := 1051) (by decide +kernel), List.mem_of_getElem? (i := 1052) (by decide +kernel)⟩
theorem lw_p41 : lw_okq (⟨"GateTurnsModel", "leaves", "(III)I"⟩, 29) := ⟨⟨by decide +kernel, by decide +kernel⟩, List.mem_of_getElem? (i := 834) (by decide +kernel), List.mem_of_getElem? (i := 1055) (by decide +kernel), List.mem_of_getElem? (i := 1056) (by decide +kernel)⟩
theorem lw_p42 : lw_okq (⟨"GateTurnsModel", "monitors", "(III)V"⟩, 29) := ⟨⟨by decide +kernel, by decide +kernel⟩, List.mem_of_getElem? (i := 834) (by decide +kernel), List.mem_of_getElem? (i := 1059) (by decide +kernel), List.mem_of_getElem? (i := 1060) (by decide +kernel)⟩
theorem lw_p43 : lw_okq (⟨"GateTurnsModel", "enters", "(II)V"⟩, 29) := ⟨⟨by decide +kernel, by decide +kernel⟩, List.mem_of_getElem? (i := 834) (by decide +kernel), List.mem_of_getElem? (i := 1063) (by decide +kernel), List.mem_of_getElem? (i := 1064) (by decide +kernel)⟩
theorem lw_p44 : lw_okq (⟨"GateTurnsModel", "comes", "(IIII)V"⟩, 29) := ⟨⟨by decide +kernel, by decide +kernel⟩, List.mem_of_getElem? (i := 834) (by decide +kernel), List.mem_of_getElem? (i := 1067) (by decide +kernel), List.mem_of_getElem? (i := 1068) (by decide +kernel)⟩
theorem lw_p45 : lw_okq (⟨"GateTurnsModel", "notifies", "(IZ)V"⟩, 29) := ⟨⟨by decide +kernel, by decide +kernel⟩, List.mem_of_getElem? (i := 834) (by decide +kernel), List.mem_of_getElem? (i := 1071) (by decide +kernel), List.mem_of_getElem? (i := 1072) (by decide +kernel)⟩
theorem lw_p46 : lw_okq (⟨"GateTurnsModel", "chosen", "(I)I"⟩, 29) := ⟨⟨by decide +kernel, by decide +kernel⟩, List.mem_of_getElem? (i := 834) (by decide +kernel), List.mem_of_getElem? (i := 1080) (by decide +kernel), List.mem_of_getElem? (i := 1081) (by decide +kernel)⟩
theorem lw_p47 : lw_okq (⟨"GateTurnsModel", "standsAt", "(I)I"⟩, 29) := ⟨⟨by decide +kernel, by decide +kernel⟩, List.mem_of_getElem? (i := 834) (by decide +kernel), List.mem_of_getElem? (i := 1095) (by decide +kernel), List.mem_of_getElem? (i := 1096) (by decide +kernel)⟩
def lw_privs_3 : List (MethodName × Nat) := [(⟨"GateTurnsModel", "takes", "(I)V"⟩, 29), (⟨"GateTurnsModel", "tells", "(IIIII)V"⟩, 29), (⟨"GateTurnsModel", "field", "(III)I"⟩, 29), (⟨"GateTurnsModel", "isReady", "(I)Z"⟩, 29), (⟨"GateTurnsModel", "stepsTruly", "(I)V"⟩, 29), (⟨"GateTurnsModel", "steps", "(I)V"⟩, 29), (⟨"GateTurnsModel", "ends", "(II)V"⟩, 29), (⟨"GateTurnsModel", "isOwner", "(II)Z"⟩, 29), (⟨"GateTurnsModel", "frees", "(I)V"⟩, 29), (⟨"GateTurnsModel", "leaves", "(III)I"⟩, 29), (⟨"GateTurnsModel", "monitors", "(III)V"⟩, 29), (⟨"GateTurnsModel", "enters", "(II)V"⟩, 29), (⟨"GateTurnsModel", "comes", "(IIII)V"⟩, 29), (⟨"GateTurnsModel", "notifies", "(IZ)V"⟩, 29), (⟨"GateTurnsModel", "chosen", "(I)I"⟩, 29), (⟨"GateTurnsModel", "standsAt", "(I)I"⟩, 29)]
theorem lw_r3 : ∀ q ∈ lw_privs_3, lw_okq q := List.forall_mem_cons.mpr ⟨lw_p32, List.forall_mem_cons.mpr ⟨lw_p33, List.forall_mem_cons.mpr ⟨lw_p34, List.forall_mem_cons.mpr ⟨lw_p35, List.forall_mem_cons.mpr ⟨lw_p36, List.forall_mem_cons.mpr ⟨lw_p37, List.forall_mem_cons.mpr ⟨lw_p38, List.forall_mem_cons.mpr ⟨lw_p39, List.forall_mem_cons.mpr ⟨lw_p40, List.forall_mem_cons.mpr ⟨lw_p41, List.forall_mem_cons.mpr ⟨lw_p42, List.forall_mem_cons.mpr ⟨lw_p43, List.forall_mem_cons.mpr ⟨lw_p44, List.forall_mem_cons.mpr ⟨lw_p45, List.forall_mem_cons.mpr ⟨lw_p46, List.forall_mem_cons.mpr ⟨lw_p47, fun _ h => absurd h List.not_mem_nil⟩⟩⟩⟩⟩⟩⟩⟩⟩⟩⟩⟩⟩⟩⟩⟩
theorem lw_p48 : lw_okq (⟨"GateTurnsModel", "ownedBy", "([III)I"⟩, 29) := ⟨⟨by decide +kernel, by decide +kernel⟩, List.mem_of_getElem? (i := 834) (by decide +kernel), List.mem_of_getElem? (i := 1099) (by decide +kernel), List.mem_of_getElem? (i := 1100) (by decide +kernel)⟩
theorem lw_p49 : lw_okq (⟨"GateTurnsModel", "areIn", "([III)I"⟩, 29) := ⟨⟨by decide +kernel, by decide +kernel⟩, List.mem_of_getElem? (i := 834) (by decide +kernel), List.mem_of_getElem? (i := 1116) (by decide +kernel), List.mem_of_getElem? (i := 1117) (by decide +kernel)⟩
theorem lw_p50 : lw_okq (⟨"GateTurnsModel", "sticks", "([II)Z"⟩, 29) := ⟨⟨by decide +kernel, by decide +kernel⟩, List.mem_of_getElem? (i := 834) (by decide +kernel), List.mem_of_getElem? (i := 1124) (by decide +kernel), List.mem_of_getElem? (i := 1125) (by decide +kernel)⟩
theorem lw_p51 : lw_okq (⟨"GateTurnsModel", "isOver", "([II)Z"⟩, 29) := ⟨⟨by decide +kernel, by decide +kernel⟩, List.mem_of_getElem? (i := 834) (by decide +kernel), List.mem_of_getElem? (i := 1128) (by decide +kernel), List.mem_of_getElem? (i := 1129) (by decide +kernel)⟩
theorem lw_p52 : lw_okq (⟨"GateTurnsModel", "findsAll", "()V"⟩, 29) := ⟨⟨by decide +kernel, by decide +kernel⟩, List.mem_of_getElem? (i := 834) (by decide +kernel), List.mem_of_getElem? (i := 1141) (by decide +kernel), List.mem_of_getElem? (i := 1142) (by decide +kernel)⟩
theorem lw_p53 : lw_okq (⟨"GateTurnsModel", "finds", "(II)V"⟩, 29) := ⟨⟨by decide +kernel, by decide +kernel⟩, List.mem_of_getElem? (i := 834) (by decide +kernel), List.mem_of_getElem? (i := 1145) (by decide +kernel), List.mem_of_getElem? (i := 1146) (by decide +kernel)⟩
theorem lw_p54 : lw_okq (⟨"GateTurnsModel", "isLike", "(I)Z"⟩, 29) := ⟨⟨by decide +kernel, by decide +kernel⟩, List.mem_of_getElem? (i := 834) (by decide +kernel), List.mem_of_getElem? (i := 1149) (by decide +kernel), List.mem_of_getElem? (i := 1150) (by decide +kernel)⟩
theorem lw_p55 : lw_okq (⟨"GateTurnsModel", "manyOf", "(Z)I"⟩, 29) := ⟨⟨by decide +kernel, by decide +kernel⟩, List.mem_of_getElem? (i := 834) (by decide +kernel), List.mem_of_getElem? (i := 1153) (by decide +kernel), List.mem_of_getElem? (i := 1154) (by decide +kernel)⟩
theorem lw_p56 : lw_okq (⟨"GateTurnsModel", "deepest", "()I"⟩, 29) := ⟨⟨by decide +kernel, by decide +kernel⟩, List.mem_of_getElem? (i := 834) (by decide +kernel), List.mem_of_getElem? (i := 1157) (by decide +kernel), List.mem_of_getElem? (i := 1158) (by decide +kernel)⟩
theorem lw_p57 : lw_okq (⟨"GateTurnsModel", "firstSticking", "()I"⟩, 29) := ⟨⟨by decide +kernel, by decide +kernel⟩, List.mem_of_getElem? (i := 834) (by decide +kernel), List.mem_of_getElem? (i := 1161) (by decide +kernel), List.mem_of_getElem? (i := 1162) (by decide +kernel)⟩
theorem lw_p58 : lw_okq (⟨"GateTurnsModel", "firstFailing", "()I"⟩, 29) := ⟨⟨by decide +kernel, by decide +kernel⟩, List.mem_of_getElem? (i := 834) (by decide +kernel), List.mem_of_getElem? (i := 1165) (by decide +kernel), List.mem_of_getElem? (i := 1166) (by decide +kernel)⟩
theorem lw_p59 : lw_okq (⟨"GateTurnsModel", "areSo", "([II)Z"⟩, 29) := ⟨⟨by decide +kernel, by decide +kernel⟩, List.mem_of_getElem? (i := 834) (by decide +kernel), List.mem_of_getElem? (i := 1169) (by decide +kernel), List.mem_of_getElem? (i := 1170) (by decide +kernel)⟩
theorem lw_p60 : lw_okq (⟨"GateTurnsModel", "outcomeAt", "(I)I"⟩, 29) := ⟨⟨by decide +kernel, by decide +kernel⟩, List.mem_of_getElem? (i := 834) (by decide +kernel), List.mem_of_getElem? (i := 1173) (by decide +kernel), List.mem_of_getElem? (i := 1174) (by decide +kernel)⟩
theorem lw_p61 : lw_okq (⟨"GateTurnsModel", "isOutcome", "(I)Z"⟩, 29) := ⟨⟨by decide +kernel, by decide +kernel⟩, List.mem_of_getElem? (i := 834) (by decide +kernel), List.mem_of_getElem? (i := 1177) (by decide +kernel), List.mem_of_getElem? (i := 1178) (by decide +kernel)⟩
theorem lw_p62 : lw_okq (⟨"GateTurnsModel", "areCellsLike", "(II)Z"⟩, 29) := ⟨⟨by decide +kernel, by decide +kernel⟩, List.mem_of_getElem? (i := 834) (by decide +kernel), List.mem_of_getElem? (i := 1181) (by decide +kernel), List.mem_of_getElem? (i := 1182) (by decide +kernel)⟩
theorem lw_p63 : lw_okq (⟨"GateTurnsModel", "isNested", "()Z"⟩, 29) := ⟨⟨by decide +kernel, by decide +kernel⟩, List.mem_of_getElem? (i := 834) (by decide +kernel), List.mem_of_getElem? (i := 1185) (by decide +kernel), List.mem_of_getElem? (i := 1186) (by decide +kernel)⟩
def lw_privs_4 : List (MethodName × Nat) := [(⟨"GateTurnsModel", "ownedBy", "([III)I"⟩, 29), (⟨"GateTurnsModel", "areIn", "([III)I"⟩, 29), (⟨"GateTurnsModel", "sticks", "([II)Z"⟩, 29), (⟨"GateTurnsModel", "isOver", "([II)Z"⟩, 29), (⟨"GateTurnsModel", "findsAll", "()V"⟩, 29), (⟨"GateTurnsModel", "finds", "(II)V"⟩, 29), (⟨"GateTurnsModel", "isLike", "(I)Z"⟩, 29), (⟨"GateTurnsModel", "manyOf", "(Z)I"⟩, 29), (⟨"GateTurnsModel", "deepest", "()I"⟩, 29), (⟨"GateTurnsModel", "firstSticking", "()I"⟩, 29), (⟨"GateTurnsModel", "firstFailing", "()I"⟩, 29), (⟨"GateTurnsModel", "areSo", "([II)Z"⟩, 29), (⟨"GateTurnsModel", "outcomeAt", "(I)I"⟩, 29), (⟨"GateTurnsModel", "isOutcome", "(I)Z"⟩, 29), (⟨"GateTurnsModel", "areCellsLike", "(II)Z"⟩, 29), (⟨"GateTurnsModel", "isNested", "()Z"⟩, 29)]
theorem lw_r4 : ∀ q ∈ lw_privs_4, lw_okq q := List.forall_mem_cons.mpr ⟨lw_p48, List.forall_mem_cons.mpr ⟨lw_p49, List.forall_mem_cons.mpr ⟨lw_p50, List.forall_mem_cons.mpr ⟨lw_p51, List.forall_mem_cons.mpr ⟨lw_p52, List.forall_mem_cons.mpr ⟨lw_p53, List.forall_mem_cons.mpr ⟨lw_p54, List.forall_mem_cons.mpr ⟨lw_p55, List.forall_mem_cons.mpr ⟨lw_p56, List.forall_mem_cons.mpr ⟨lw_p57, List.forall_mem_cons.mpr ⟨lw_p58, List.forall_mem_cons.mpr ⟨lw_p59, List.forall_mem_cons.mpr ⟨lw_p60, List.forall_mem_cons.mpr ⟨lw_p61, List.forall_mem_cons.mpr ⟨lw_p62, List.forall_mem_cons.mpr ⟨lw_p63, fun _ h => absurd h List.not_mem_nil⟩⟩⟩⟩⟩⟩⟩⟩⟩⟩⟩⟩⟩⟩⟩⟩
theorem lw_p64 : lw_okq (⟨"GateTurnsModel", "goal", "(I)I"⟩, 29) := ⟨⟨by decide +kernel, by decide +kernel⟩, List.mem_of_getElem? (i := 834) (by decide +kernel), List.mem_of_getElem? (i := 1193) (by decide +kernel), List.mem_of_getElem? (i := 1194) (by decide +kernel)⟩
theorem lw_p65 : lw_okq (⟨"GateTurnsModel", "onWay", "(II)I"⟩, 29) := ⟨⟨by decide +kernel, by decide +kernel⟩, List.mem_of_getElem? (i := 834) (by decide +kernel), List.mem_of_getElem? (i := 1197) (by decide +kernel), List.mem_of_getElem? (i := 1198) (by decide +kernel)⟩
theorem lw_p66 : lw_okq (⟨"GateTurnsModel", "underIn", "(I)I"⟩, 29) := ⟨⟨by decide +kernel, by decide +kernel⟩, List.mem_of_getElem? (i := 834) (by decide +kernel), List.mem_of_getElem? (i := 1213) (by decide +kernel), List.mem_of_getElem? (i := 1214) (by decide +kernel)⟩
def lw_privs_5 : List (MethodName × Nat) := [(⟨"GateTurnsModel", "goal", "(I)I"⟩, 29), (⟨"GateTurnsModel", "onWay", "(II)I"⟩, 29), (⟨"GateTurnsModel", "underIn", "(I)I"⟩, 29)]
theorem lw_r5 : ∀ q ∈ lw_privs_5, lw_okq q := List.forall_mem_cons.mpr ⟨lw_p64, List.forall_mem_cons.mpr ⟨lw_p65, List.forall_mem_cons.mpr ⟨lw_p66, fun _ h => absurd h List.not_mem_nil⟩⟩⟩
def lw_privs : List (MethodName × Nat) := lw_privs_1 ++ (lw_privs_2 ++ (lw_privs_3 ++ (lw_privs_4 ++ (lw_privs_5))))
def lw_tbl : List Cond := k2_sels lw_privs ++ tables_1
theorem lw_privs_ok : ∀ q ∈ lw_privs, lw_okq q := by
  show ∀ q ∈ lw_privs_1 ++ (lw_privs_2 ++ (lw_privs_3 ++ (lw_privs_4 ++ (lw_privs_5)))), lw_okq q
  exact List.forall_mem_append.mpr ⟨lw_r1, List.forall_mem_append.mpr ⟨lw_r2, List.forall_mem_append.mpr ⟨lw_r3, List.forall_mem_append.mpr ⟨lw_r4, lw_r5⟩⟩⟩⟩
end
section
def RX0 : String := "GateTurns$Conditions"
def TX0 : u_T := fun k => match k with
  | 0 => ("GateTurns$Conditions", "size", "I", false)
  | 1 => ("GateTurns$Conditions", "cell", "[I", true)
  | 2 => ("GateTurns$Conditions", "how", "[I", true)
  | _ => ("GateTurns$Conditions", "number", "[I", true)
def tyX0 : Nat → FieldType := fun k => match k with
  | 0 => .int
  | 1 => .array .int
  | 2 => .array .int
  | _ => .array .int
theorem nmX0 : ∀ a, a < 4 → ∀ b, b < 4 → a ≠ b → (TX0 a).2.1 ≠ (TX0 b).2.1 := by decide +kernel
theorem tyX0_ok : ∀ k, k < 4 → parseFieldDescriptor (TX0 k).2.2.1 = some (tyX0 k) := by decide +kernel
abbrev cX0_init : ByteArray := prog_2_method_1_code
def yX0_init : MethodName := ⟨RX0, "<init>", "()V"⟩
abbrev cX0_append : ByteArray := prog_2_method_2_code
def yX0_append : MethodName := ⟨RX0, "append", "(III)V"⟩
abbrev cX0_allSo : ByteArray := prog_2_method_3_code
def yX0_allSo : MethodName := ⟨RX0, "allSo", "([I)Z"⟩
abbrev cX0_isSo : ByteArray := prog_2_method_4_code
def yX0_isSo : MethodName := ⟨RX0, "isSo", "(III)Z"⟩
def RX1 : String := "GateTurns$Desk"
def TX1 : u_T := fun k => match k with
  | 0 => ("GateTurns$Desk", "tasks", "I", false)
  | 1 => ("GateTurns$Desk", "latest", "I", false)
  | 2 => ("GateTurns$Desk", "programs", "[LGateTurns$Program;", true)
  | 3 => ("GateTurns$Desk", "place", "[I", true)
  | 4 => ("GateTurns$Desk", "status", "[I", true)
  | 5 => ("GateTurns$Desk", "saved", "[I", true)
  | 6 => ("GateTurns$Desk", "reason", "[I", true)
  | 7 => ("GateTurns$Desk", "left", "[I", true)
  | 8 => ("GateTurns$Desk", "missing", "[Z", true)
  | 9 => ("GateTurns$Desk", "owner", "[I", true)
  | 10 => ("GateTurns$Desk", "count", "[I", true)
  | 11 => ("GateTurns$Desk", "entry", "[I", true)
  | 12 => ("GateTurns$Desk", "wait", "[I", true)
  | _ => ("GateTurns$Desk", "cells", "[I", true)
def tyX1 : Nat → FieldType := fun k => match k with
  | 0 => .int
  | 1 => .int
  | 2 => .array (.object "GateTurns$Program")
  | 3 => .array .int
  | 4 => .array .int
  | 5 => .array .int
  | 6 => .array .int
  | 7 => .array .int
  | 8 => .array .boolean
  | 9 => .array .int
  | 10 => .array .int
  | 11 => .array .int
  | 12 => .array .int
  | _ => .array .int
theorem nmX1 : ∀ a, a < 14 → ∀ b, b < 14 → a ≠ b → (TX1 a).2.1 ≠ (TX1 b).2.1 := by decide +kernel
theorem tyX1_ok : ∀ k, k < 14 → parseFieldDescriptor (TX1 k).2.2.1 = some (tyX1 k) := by decide +kernel
abbrev cX1_init : ByteArray := prog_3_method_1_code
def yX1_init : MethodName := ⟨RX1, "<init>", "()V"⟩
abbrev cX1_newTask : ByteArray := prog_3_method_2_code
def yX1_newTask : MethodName := ⟨RX1, "newTask", "()I"⟩
abbrev cX1_startAgain : ByteArray := prog_3_method_3_code
def yX1_startAgain : MethodName := ⟨RX1, "startAgain", "()V"⟩
abbrev cX1_forgetReasons : ByteArray := prog_3_method_4_code
def yX1_forgetReasons : MethodName := ⟨RX1, "forgetReasons", "()V"⟩
abbrev cX1_copyFrom : ByteArray := prog_3_method_5_code
def yX1_copyFrom : MethodName := ⟨RX1, "copyFrom", "(LGateTurns$Desk;)V"⟩
abbrev cX1_take : ByteArray := prog_3_method_6_code
def yX1_take : MethodName := ⟨RX1, "take", "(I)V"⟩
abbrev cX1_doAtMonitor : ByteArray := prog_3_method_7_code
def yX1_doAtMonitor : MethodName := ⟨RX1, "doAtMonitor", "(III)I"⟩
abbrev cX1_enter : ByteArray := prog_3_method_8_code
def yX1_enter : MethodName := ⟨RX1, "enter", "(II)I"⟩
abbrev cX1_wake : ByteArray := prog_3_method_9_code
def yX1_wake : MethodName := ⟨RX1, "wake", "(II)V"⟩
abbrev cX1_free : ByteArray := prog_3_method_10_code
def yX1_free : MethodName := ⟨RX1, "free", "(I)V"⟩
abbrev cX1_doWithCells : ByteArray := prog_3_method_11_code
def yX1_doWithCells : MethodName := ⟨RX1, "doWithCells", "(ILGateTurns$Program;I)I"⟩
abbrev cX1_end : ByteArray := prog_3_method_12_code
def yX1_end : MethodName := ⟨RX1, "end", "(II)V"⟩
abbrev cX1_chosenBy : ByteArray := prog_3_method_13_code
def yX1_chosenBy : MethodName := ⟨RX1, "chosenBy", "(I)I"⟩
abbrev cX1_isUsed : ByteArray := prog_3_method_14_code
def yX1_isUsed : MethodName := ⟨RX1, "isUsed", "(I)Z"⟩
abbrev cX1_whereStands : ByteArray := prog_3_method_15_code
def yX1_whereStands : MethodName := ⟨RX1, "whereStands", "(I)I"⟩
abbrev cX1_ownedBy : ByteArray := prog_3_method_16_code
def yX1_ownedBy : MethodName := ⟨RX1, "ownedBy", "(I)I"⟩
abbrev cX1_allThatAre : ByteArray := prog_3_method_17_code
def yX1_allThatAre : MethodName := ⟨RX1, "allThatAre", "(I)I"⟩
abbrev cX1_sticks : ByteArray := prog_3_method_18_code
def yX1_sticks : MethodName := ⟨RX1, "sticks", "()Z"⟩
abbrev cX1_isOver : ByteArray := prog_3_method_19_code
def yX1_isOver : MethodName := ⟨RX1, "isOver", "()Z"⟩
abbrev cX1_aboutToEnter : ByteArray := prog_3_method_20_code
def yX1_aboutToEnter : MethodName := ⟨RX1, "aboutToEnter", "(I)I"⟩
def RX2 : String := "GateTurns$Lists"
def TX2 : u_T := fun k => match k with
  | 0 => ("GateTurns$Lists", "sizes", "[I", true)
  | _ => ("GateTurns$Lists", "rows", "[[I", true)
def tyX2 : Nat → FieldType := fun k => match k with
  | 0 => .array .int
  | _ => .array (.array .int)
theorem nmX2 : ∀ a, a < 2 → ∀ b, b < 2 → a ≠ b → (TX2 a).2.1 ≠ (TX2 b).2.1 := by decide +kernel
theorem tyX2_ok : ∀ k, k < 2 → parseFieldDescriptor (TX2 k).2.2.1 = some (tyX2 k) := by decide +kernel
abbrev cX2_init : ByteArray := prog_4_method_1_code
def yX2_init : MethodName := ⟨RX2, "<init>", "()V"⟩
abbrev cX2_refusalOf : ByteArray := prog_4_method_2_code
def yX2_refusalOf : MethodName := ⟨RX2, "refusalOf", "(I)I"⟩
abbrev cX2_hasPlace : ByteArray := prog_4_method_3_code
def yX2_hasPlace : MethodName := ⟨RX2, "hasPlace", "(II)Z"⟩
abbrev cX2_begin : ByteArray := prog_4_method_4_code
def yX2_begin : MethodName := ⟨RX2, "begin", "(II)V"⟩
def RX3 : String := "GateTurns$Program"
def TX3 : u_T := fun k => match k with
  | 0 => ("GateTurns$Program", "size", "I", false)
  | _ => ("GateTurns$Program", "parts", "[I", true)
def tyX3 : Nat → FieldType := fun k => match k with
  | 0 => .int
  | _ => .array .int
theorem nmX3 : ∀ a, a < 2 → ∀ b, b < 2 → a ≠ b → (TX3 a).2.1 ≠ (TX3 b).2.1 := by decide +kernel
theorem tyX3_ok : ∀ k, k < 2 → parseFieldDescriptor (TX3 k).2.2.1 = some (tyX3 k) := by decide +kernel
abbrev cX3_init : ByteArray := prog_5_method_1_code
def yX3_init : MethodName := ⟨RX3, "<init>", "()V"⟩
abbrev cX3_part : ByteArray := prog_5_method_2_code
def yX3_part : MethodName := ⟨RX3, "part", "(II)I"⟩
abbrev cX3_append : ByteArray := prog_5_method_3_code
def yX3_append : MethodName := ⟨RX3, "append", "(IIII)V"⟩
abbrev cX3_copyFrom : ByteArray := prog_5_method_4_code
def yX3_copyFrom : MethodName := ⟨RX3, "copyFrom", "(LGateTurns$Program;)V"⟩
def RX4 : String := "GateTurns$Reader"
def TX4 : u_T := fun k => match k with
  | 0 => ("GateTurns$Reader", "tape", "LGateTurns$Tape;", true)
  | 1 => ("GateTurns$Reader", "draft", "LGateTurns$Program;", true)
  | 2 => ("GateTurns$Reader", "at", "I", false)
  | _ => ("GateTurns$Reader", "fault", "I", false)
def tyX4 : Nat → FieldType := fun k => match k with
  | 0 => .object "GateTurns$Tape"
  | 1 => .object "GateTurns$Program"
  | 2 => .int
  | _ => .int
theorem nmX4 : ∀ a, a < 4 → ∀ b, b < 4 → a ≠ b → (TX4 a).2.1 ≠ (TX4 b).2.1 := by decide +kernel
theorem tyX4_ok : ∀ k, k < 4 → parseFieldDescriptor (TX4 k).2.2.1 = some (tyX4 k) := by decide +kernel
abbrev cX4_init : ByteArray := prog_6_method_1_code
def yX4_init : MethodName := ⟨RX4, "<init>", "()V"⟩
abbrev cX4_read : ByteArray := prog_6_method_2_code
def yX4_read : MethodName := ⟨RX4, "read", "()I"⟩
abbrev cX4_readStatement : ByteArray := prog_6_method_3_code
def yX4_readStatement : MethodName := ⟨RX4, "readStatement", "()V"⟩
abbrev cX4_readWord : ByteArray := prog_6_method_4_code
def yX4_readWord : MethodName := ⟨RX4, "readWord", "()I"⟩
abbrev cX4_isWord : ByteArray := prog_6_method_5_code
def yX4_isWord : MethodName := ⟨RX4, "isWord", "(Ljava/lang/String;I)Z"⟩
abbrev cX4_wordOf : ByteArray := prog_6_method_6_code
def yX4_wordOf : MethodName := ⟨RX4, "wordOf", "(I)Ljava/lang/String;"⟩
abbrev cX4_readBlank : ByteArray := prog_6_method_7_code
def yX4_readBlank : MethodName := ⟨RX4, "readBlank", "()V"⟩
abbrev cX4_readFigureBelow : ByteArray := prog_6_method_8_code
def yX4_readFigureBelow : MethodName := ⟨RX4, "readFigureBelow", "(I)I"⟩
abbrev cX4_readTarget : ByteArray := prog_6_method_9_code
def yX4_readTarget : MethodName := ⟨RX4, "readTarget", "()I"⟩
abbrev cX4_readNumber : ByteArray := prog_6_method_10_code
def yX4_readNumber : MethodName := ⟨RX4, "readNumber", "()I"⟩
abbrev cX4_takeFigures : ByteArray := prog_6_method_11_code
def yX4_takeFigures : MethodName := ⟨RX4, "takeFigures", "(I)I"⟩
abbrev cX4_allowed : ByteArray := prog_6_method_12_code
def yX4_allowed : MethodName := ⟨RX4, "allowed", "(III)I"⟩
def RX5 : String := "GateTurns$Row"
def TX5 : u_T := fun k => match k with
  | _ => ("", "", "", false)
def tyX5 : Nat → FieldType := fun k => match k with
  | _ => .int
theorem nmX5 : ∀ a, a < 0 → ∀ b, b < 0 → a ≠ b → (TX5 a).2.1 ≠ (TX5 b).2.1 := by decide +kernel
theorem tyX5_ok : ∀ k, k < 0 → parseFieldDescriptor (TX5 k).2.2.1 = some (tyX5 k) := by decide +kernel
abbrev cX5_at : ByteArray := prog_7_method_2_code
def yX5_at : MethodName := ⟨RX5, "at", "(II)I"⟩
abbrev cX5_length : ByteArray := prog_7_method_3_code
def yX5_length : MethodName := ⟨RX5, "length", "(I)I"⟩
abbrev cX5_withLast : ByteArray := prog_7_method_4_code
def yX5_withLast : MethodName := ⟨RX5, "withLast", "(II)I"⟩
abbrev cX5_withoutFirst : ByteArray := prog_7_method_5_code
def yX5_withoutFirst : MethodName := ⟨RX5, "withoutFirst", "(I)I"⟩
abbrev cX5_has : ByteArray := prog_7_method_6_code
def yX5_has : MethodName := ⟨RX5, "has", "(II)Z"⟩
def RX6 : String := "GateTurns$Search"
def TX6 : u_T := fun k => match k with
  | 0 => ("GateTurns$Search", "known", "Z", false)
  | 1 => ("GateTurns$Search", "desk", "LGateTurns$Desk;", true)
  | 2 => ("GateTurns$Search", "states", "LGateTurns$States;", true)
  | 3 => ("GateTurns$Search", "cameFrom", "[I", true)
  | 4 => ("GateTurns$Search", "mover", "[I", true)
  | 5 => ("GateTurns$Search", "depth", "[I", true)
  | 6 => ("GateTurns$Search", "outcomes", "[I", true)
  | 7 => ("GateTurns$Search", "under", "[I", true)
  | 8 => ("GateTurns$Search", "all", "Z", false)
  | 9 => ("GateTurns$Search", "nested", "Z", false)
  | 10 => ("GateTurns$Search", "sticking", "I", false)
  | 11 => ("GateTurns$Search", "failing", "I", false)
  | 12 => ("GateTurns$Search", "howManyStick", "I", false)
  | 13 => ("GateTurns$Search", "howManyOver", "I", false)
  | _ => ("GateTurns$Search", "howManyOutcomes", "I", false)
def tyX6 : Nat → FieldType := fun k => match k with
  | 0 => .boolean
  | 1 => .object "GateTurns$Desk"
  | 2 => .object "GateTurns$States"
  | 3 => .array .int
  | 4 => .array .int
  | 5 => .array .int
  | 6 => .array .int
  | 7 => .array .int
  | 8 => .boolean
  | 9 => .boolean
  | 10 => .int
  | 11 => .int
  | 12 => .int
  | 13 => .int
  | _ => .int
theorem nmX6 : ∀ a, a < 15 → ∀ b, b < 15 → a ≠ b → (TX6 a).2.1 ≠ (TX6 b).2.1 := by decide +kernel
theorem tyX6_ok : ∀ k, k < 15 → parseFieldDescriptor (TX6 k).2.2.1 = some (tyX6 k) := by decide +kernel
abbrev cX6_init : ByteArray := prog_8_method_1_code
def yX6_init : MethodName := ⟨RX6, "<init>", "()V"⟩
abbrev cX6_forget : ByteArray := prog_8_method_2_code
def yX6_forget : MethodName := ⟨RX6, "forget", "()V"⟩
abbrev cX6_explore : ByteArray := prog_8_method_3_code
def yX6_explore : MethodName := ⟨RX6, "explore", "(LGateTurns$Desk;LGateTurns$Conditions;)V"⟩
abbrev cX6_begin : ByteArray := prog_8_method_4_code
def yX6_begin : MethodName := ⟨RX6, "begin", "(LGateTurns$Desk;)V"⟩
abbrev cX6_note : ByteArray := prog_8_method_5_code
def yX6_note : MethodName := ⟨RX6, "note", "(IIILGateTurns$Conditions;)V"⟩
abbrev cX6_noteOutcome : ByteArray := prog_8_method_6_code
def yX6_noteOutcome : MethodName := ⟨RX6, "noteOutcome", "()V"⟩
abbrev cX6_noteMonitors : ByteArray := prog_8_method_7_code
def yX6_noteMonitors : MethodName := ⟨RX6, "noteMonitors", "()V"⟩
abbrev cX6_greatestDepth : ByteArray := prog_8_method_8_code
def yX6_greatestDepth : MethodName := ⟨RX6, "greatestDepth", "()I"⟩
abbrev cX6_depthOf : ByteArray := prog_8_method_9_code
def yX6_depthOf : MethodName := ⟨RX6, "depthOf", "(I)I"⟩
abbrev cX6_moverOf : ByteArray := prog_8_method_10_code
def yX6_moverOf : MethodName := ⟨RX6, "moverOf", "(II)I"⟩
abbrev cX6_cellOfOutcome : ByteArray := prog_8_method_11_code
def yX6_cellOfOutcome : MethodName := ⟨RX6, "cellOfOutcome", "(II)I"⟩
abbrev cX6_goesRound : ByteArray := prog_8_method_12_code
def yX6_goesRound : MethodName := ⟨RX6, "goesRound", "()Z"⟩
def RX7 : String := "GateTurns$States"
def TX7 : u_T := fun k => match k with
  | 0 => ("GateTurns$States", "size", "I", false)
  | 1 => ("GateTurns$States", "words", "[I", true)
  | 2 => ("GateTurns$States", "draft", "[I", true)
  | _ => ("GateTurns$States", "slots", "[I", true)
def tyX7 : Nat → FieldType := fun k => match k with
  | 0 => .int
  | 1 => .array .int
  | 2 => .array .int
  | _ => .array .int
theorem nmX7 : ∀ a, a < 4 → ∀ b, b < 4 → a ≠ b → (TX7 a).2.1 ≠ (TX7 b).2.1 := by decide +kernel
theorem tyX7_ok : ∀ k, k < 4 → parseFieldDescriptor (TX7 k).2.2.1 = some (tyX7 k) := by decide +kernel
abbrev cX7_init : ByteArray := prog_9_method_1_code
def yX7_init : MethodName := ⟨RX7, "<init>", "()V"⟩
abbrev cX7_empty : ByteArray := prog_9_method_2_code
def yX7_empty : MethodName := ⟨RX7, "empty", "()V"⟩
abbrev cX7_keep : ByteArray := prog_9_method_3_code
def yX7_keep : MethodName := ⟨RX7, "keep", "(LGateTurns$Desk;)I"⟩
abbrev cX7_firstSlot : ByteArray := prog_9_method_4_code
def yX7_firstSlot : MethodName := ⟨RX7, "firstSlot", "()I"⟩
abbrev cX7_isDraft : ByteArray := prog_9_method_5_code
def yX7_isDraft : MethodName := ⟨RX7, "isDraft", "(I)Z"⟩
abbrev cX7_pack : ByteArray := prog_9_method_6_code
def yX7_pack : MethodName := ⟨RX7, "pack", "(LGateTurns$Desk;)V"⟩
abbrev cX7_packedTask : ByteArray := prog_9_method_7_code
def yX7_packedTask : MethodName := ⟨RX7, "packedTask", "(LGateTurns$Desk;I)I"⟩
abbrev cX7_packedCells : ByteArray := prog_9_method_8_code
def yX7_packedCells : MethodName := ⟨RX7, "packedCells", "([I)I"⟩
abbrev cX7_unpackedCell : ByteArray := prog_9_method_9_code
def yX7_unpackedCell : MethodName := ⟨RX7, "unpackedCell", "(II)I"⟩
abbrev cX7_unpack : ByteArray := prog_9_method_10_code
def yX7_unpack : MethodName := ⟨RX7, "unpack", "(ILGateTurns$Desk;)V"⟩
def RX8 : String := "GateTurns$Tape"
def TX8 : u_T := fun k => match k with
  | 0 => ("GateTurns$Tape", "bytes", "[I", true)
  | _ => ("GateTurns$Tape", "size", "I", false)
def tyX8 : Nat → FieldType := fun k => match k with
  | 0 => .array .int
  | _ => .int
theorem nmX8 : ∀ a, a < 2 → ∀ b, b < 2 → a ≠ b → (TX8 a).2.1 ≠ (TX8 b).2.1 := by decide +kernel
theorem tyX8_ok : ∀ k, k < 2 → parseFieldDescriptor (TX8 k).2.2.1 = some (tyX8 k) := by decide +kernel
abbrev cX8_init : ByteArray := prog_10_method_1_code
def yX8_init : MethodName := ⟨RX8, "<init>", "()V"⟩
abbrev cX8_append : ByteArray := prog_10_method_2_code
def yX8_append : MethodName := ⟨RX8, "append", "(I)V"⟩
abbrev cX8_at : ByteArray := prog_10_method_3_code
def yX8_at : MethodName := ⟨RX8, "at", "(I)I"⟩
def RX9 : String := "GateTurns$Trouble"
def TX9 : u_T := fun k => match k with
  | 0 => ("GateTurns$Trouble", "size", "I", false)
  | 1 => ("GateTurns$Trouble", "sorts", "[I", true)
  | _ => ("GateTurns$Trouble", "numbers", "[I", true)
def tyX9 : Nat → FieldType := fun k => match k with
  | 0 => .int
  | 1 => .array .int
  | _ => .array .int
theorem nmX9 : ∀ a, a < 3 → ∀ b, b < 3 → a ≠ b → (TX9 a).2.1 ≠ (TX9 b).2.1 := by decide +kernel
theorem tyX9_ok : ∀ k, k < 3 → parseFieldDescriptor (TX9 k).2.2.1 = some (tyX9 k) := by decide +kernel
abbrev cX9_init : ByteArray := prog_11_method_1_code
def yX9_init : MethodName := ⟨RX9, "<init>", "()V"⟩
abbrev cX9_ofProgram : ByteArray := prog_11_method_2_code
def yX9_ofProgram : MethodName := ⟨RX9, "ofProgram", "(III)V"⟩
abbrev cX9_ofStep : ByteArray := prog_11_method_3_code
def yX9_ofStep : MethodName := ⟨RX9, "ofStep", "(IIII)V"⟩
abbrev cX9_append : ByteArray := prog_11_method_4_code
def yX9_append : MethodName := ⟨RX9, "append", "(II)V"⟩
abbrev cX9_link : ByteArray := prog_11_method_5_code
def yX9_link : MethodName := ⟨RX9, "link", "(II)I"⟩
def RX10 : String := "GateTurns"
def TX10 : u_T := fun k => match k with
  | 0 => ("GateTurns", "now", "LGateTurns$Desk;", true)
  | 1 => ("GateTurns", "kept", "LGateTurns$Desk;", true)
  | 2 => ("GateTurns", "hasImage", "Z", false)
  | 3 => ("GateTurns", "reader", "LGateTurns$Reader;", true)
  | 4 => ("GateTurns", "tape", "LGateTurns$Tape;", true)
  | 5 => ("GateTurns", "trouble", "LGateTurns$Trouble;", true)
  | 6 => ("GateTurns", "conditions", "LGateTurns$Conditions;", true)
  | 7 => ("GateTurns", "search", "LGateTurns$Search;", true)
  | _ => ("GateTurns", "lists", "LGateTurns$Lists;", true)
def tyX10 : Nat → FieldType := fun k => match k with
  | 0 => .object "GateTurns$Desk"
  | 1 => .object "GateTurns$Desk"
  | 2 => .boolean
  | 3 => .object "GateTurns$Reader"
  | 4 => .object "GateTurns$Tape"
  | 5 => .object "GateTurns$Trouble"
  | 6 => .object "GateTurns$Conditions"
  | 7 => .object "GateTurns$Search"
  | _ => .object "GateTurns$Lists"
theorem nmX10 : ∀ a, a < 9 → ∀ b, b < 9 → a ≠ b → (TX10 a).2.1 ≠ (TX10 b).2.1 := by decide +kernel
theorem tyX10_ok : ∀ k, k < 9 → parseFieldDescriptor (TX10 k).2.2.1 = some (tyX10 k) := by decide +kernel
abbrev cX10_init : ByteArray := prog_1_method_1_code
def yX10_init : MethodName := ⟨RX10, "<init>", "()V"⟩
abbrev cX10_task : ByteArray := prog_1_method_2_code
def yX10_task : MethodName := ⟨RX10, "task", "()I"⟩
abbrev cX10_restart : ByteArray := prog_1_method_3_code
def yX10_restart : MethodName := ⟨RX10, "restart", "()I"⟩
abbrev cX10_missing : ByteArray := prog_1_method_4_code
def yX10_missing : MethodName := ⟨RX10, "missing", "(IZ)I"⟩
abbrev cX10_put : ByteArray := prog_1_method_5_code
def yX10_put : MethodName := ⟨RX10, "put", "(II)I"⟩
abbrev cX10_cell : ByteArray := prog_1_method_6_code
def yX10_cell : MethodName := ⟨RX10, "cell", "(I)I"⟩
abbrev cX10_feed : ByteArray := prog_1_method_7_code
def yX10_feed : MethodName := ⟨RX10, "feed", "(I)I"⟩
abbrev cX10_clear : ByteArray := prog_1_method_8_code
def yX10_clear : MethodName := ⟨RX10, "clear", "()I"⟩
abbrev cX10_program : ByteArray := prog_1_method_9_code
def yX10_program : MethodName := ⟨RX10, "program", "(I)I"⟩
abbrev cX10_statement : ByteArray := prog_1_method_10_code
def yX10_statement : MethodName := ⟨RX10, "statement", "(III)I"⟩
abbrev cX10_step : ByteArray := prog_1_method_11_code
def yX10_step : MethodName := ⟨RX10, "step", "(I)I"⟩
abbrev cX10_run : ByteArray := prog_1_method_12_code
def yX10_run : MethodName := ⟨RX10, "run", "(II)I"⟩
abbrev cX10_follow : ByteArray := prog_1_method_13_code
def yX10_follow : MethodName := ⟨RX10, "follow", "(III)I"⟩
abbrev cX10_of : ByteArray := prog_1_method_14_code
def yX10_of : MethodName := ⟨RX10, "of", "(II)I"⟩
abbrev cX10_gate : ByteArray := prog_1_method_15_code
def yX10_gate : MethodName := ⟨RX10, "gate", "(II)I"⟩
abbrev cX10_stands : ByteArray := prog_1_method_16_code
def yX10_stands : MethodName := ⟨RX10, "stands", "(III)I"⟩
abbrev cX10_are : ByteArray := prog_1_method_17_code
def yX10_are : MethodName := ⟨RX10, "are", "(I)I"⟩
abbrev cX10_told : ByteArray := prog_1_method_18_code
def yX10_told : MethodName := ⟨RX10, "told", "(I)I"⟩
abbrev cX10_cause : ByteArray := prog_1_method_19_code
def yX10_cause : MethodName := ⟨RX10, "cause", "(II)I"⟩
abbrev cX10_found : ByteArray := prog_1_method_20_code
def yX10_found : MethodName := ⟨RX10, "found", "(I)I"⟩
abbrev cX10_schedule : ByteArray := prog_1_method_21_code
def yX10_schedule : MethodName := ⟨RX10, "schedule", "(II)I"⟩
abbrev cX10_lay : ByteArray := prog_1_method_22_code
def yX10_lay : MethodName := ⟨RX10, "lay", "(III)I"⟩
abbrev cX10_outcome : ByteArray := prog_1_method_23_code
def yX10_outcome : MethodName := ⟨RX10, "outcome", "(II)I"⟩
abbrev cX10_under : ByteArray := prog_1_method_24_code
def yX10_under : MethodName := ⟨RX10, "under", "(I)I"⟩
abbrev cX10_round : ByteArray := prog_1_method_25_code
def yX10_round : MethodName := ⟨RX10, "round", "()I"⟩
abbrev cX10_condition : ByteArray := prog_1_method_26_code
def yX10_condition : MethodName := ⟨RX10, "condition", "(III)I"⟩
abbrev cX10_holds : ByteArray := prog_1_method_27_code
def yX10_holds : MethodName := ⟨RX10, "holds", "()I"⟩
abbrev cX10_list : ByteArray := prog_1_method_28_code
def yX10_list : MethodName := ⟨RX10, "list", "(II)I"⟩
abbrev cX10_set : ByteArray := prog_1_method_29_code
def yX10_set : MethodName := ⟨RX10, "set", "(III)I"⟩
abbrev cX10_get : ByteArray := prog_1_method_30_code
def yX10_get : MethodName := ⟨RX10, "get", "(II)I"⟩
abbrev cX10_image : ByteArray := prog_1_method_31_code
def yX10_image : MethodName := ⟨RX10, "image", "()I"⟩
abbrev cX10_back : ByteArray := prog_1_method_32_code
def yX10_back : MethodName := ⟨RX10, "back", "()I"⟩
abbrev cX10_isTask : ByteArray := prog_1_method_33_code
def yX10_isTask : MethodName := ⟨RX10, "isTask", "(I)Z"⟩
abbrev cX10_isMonitor : ByteArray := prog_1_method_34_code
def yX10_isMonitor : MethodName := ⟨RX10, "isMonitor", "(I)Z"⟩
abbrev cX10_isCell : ByteArray := prog_1_method_35_code
def yX10_isCell : MethodName := ⟨RX10, "isCell", "(I)Z"⟩
abbrev cX10_isCellNumber : ByteArray := prog_1_method_36_code
def yX10_isCellNumber : MethodName := ⟨RX10, "isCellNumber", "(I)Z"⟩
abbrev cX10_isList : ByteArray := prog_1_method_37_code
def yX10_isList : MethodName := ⟨RX10, "isList", "(I)Z"⟩
abbrev cX10_asNumber : ByteArray := prog_1_method_38_code
def yX10_asNumber : MethodName := ⟨RX10, "asNumber", "(Z)I"⟩
abbrev cX10_takeTruly : ByteArray := prog_1_method_39_code
def yX10_takeTruly : MethodName := ⟨RX10, "takeTruly", "(I)V"⟩
def RX11 : String := "GateTurnsModel"
def TX11 : u_T := fun k => match k with
  | 0 => ("GateTurnsModel", "g", "[I", true)
  | 1 => ("GateTurnsModel", "kept", "[I", true)
  | 2 => ("GateTurnsModel", "s", "[I", true)
  | 3 => ("GateTurnsModel", "reasons", "[I", true)
  | 4 => ("GateTurnsModel", "lefts", "[I", true)
  | 5 => ("GateTurnsModel", "isKept", "Z", false)
  | 6 => ("GateTurnsModel", "tape", "[I", true)
  | 7 => ("GateTurnsModel", "read", "[I", true)
  | 8 => ("GateTurnsModel", "letters", "[I", true)
  | 9 => ("GateTurnsModel", "fed", "I", false)
  | 10 => ("GateTurnsModel", "at", "I", false)
  | 11 => ("GateTurnsModel", "fault", "I", false)
  | 12 => ("GateTurnsModel", "whole", "I", false)
  | 13 => ("GateTurnsModel", "sorts", "[I", true)
  | 14 => ("GateTurnsModel", "numbers", "[I", true)
  | 15 => ("GateTurnsModel", "troubles", "I", false)
  | 16 => ("GateTurnsModel", "reason", "I", false)
  | 17 => ("GateTurnsModel", "owned", "I", false)
  | 18 => ("GateTurnsModel", "states", "[I", true)
  | 19 => ("GateTurnsModel", "ahead", "[I", true)
  | 20 => ("GateTurnsModel", "by", "[I", true)
  | 21 => ("GateTurnsModel", "depths", "[I", true)
  | 22 => ("GateTurnsModel", "marks", "[I", true)
  | 23 => ("GateTurnsModel", "found", "I", false)
  | 24 => ("GateTurnsModel", "isAll", "Z", false)
  | 25 => ("GateTurnsModel", "told", "[I", true)
  | 26 => ("GateTurnsModel", "conditions", "I", false)
  | 27 => ("GateTurnsModel", "sizes", "[I", true)
  | _ => ("GateTurnsModel", "items", "[I", true)
def tyX11 : Nat → FieldType := fun k => match k with
  | 0 => .array .int
  | 1 => .array .int
  | 2 => .array .int
  | 3 => .array .int
  | 4 => .array .int
  | 5 => .boolean
  | 6 => .array .int
  | 7 => .array .int
  | 8 => .array .int
  | 9 => .int
  | 10 => .int
  | 11 => .int
  | 12 => .int
  | 13 => .array .int
  | 14 => .array .int
  | 15 => .int
  | 16 => .int
  | 17 => .int
  | 18 => .array .int
  | 19 => .array .int
  | 20 => .array .int
  | 21 => .array .int
  | 22 => .array .int
  | 23 => .int
  | 24 => .boolean
  | 25 => .array .int
  | 26 => .int
  | 27 => .array .int
  | _ => .array .int
theorem nmX11 : ∀ a, a < 29 → ∀ b, b < 29 → a ≠ b → (TX11 a).2.1 ≠ (TX11 b).2.1 := by decide +kernel
theorem tyX11_ok : ∀ k, k < 29 → parseFieldDescriptor (TX11 k).2.2.1 = some (tyX11 k) := by decide +kernel
abbrev cX11_init : ByteArray := prog_13_method_1_code
def yX11_init : MethodName := ⟨RX11, "<init>", "()V"⟩
abbrev cX11_in : ByteArray := prog_13_method_2_code
def yX11_in : MethodName := ⟨RX11, "in", "(JJJ)Z"⟩
abbrev cX11_has : ByteArray := prog_13_method_3_code
def yX11_has : MethodName := ⟨RX11, "has", "(II)Z"⟩
abbrev cX11_copies : ByteArray := prog_13_method_4_code
def yX11_copies : MethodName := ⟨RX11, "copies", "([II[III)V"⟩
abbrev cX11_isTask : ByteArray := prog_13_method_5_code
def yX11_isTask : MethodName := ⟨RX11, "isTask", "(I)Z"⟩
abbrev cX11_isMonitor : ByteArray := prog_13_method_6_code
def yX11_isMonitor : MethodName := ⟨RX11, "isMonitor", "(I)Z"⟩
abbrev cX11_isCell : ByteArray := prog_13_method_7_code
def yX11_isCell : MethodName := ⟨RX11, "isCell", "(I)Z"⟩
abbrev cX11_task : ByteArray := prog_13_method_8_code
def yX11_task : MethodName := ⟨RX11, "task", "()I"⟩
abbrev cX11_restart : ByteArray := prog_13_method_9_code
def yX11_restart : MethodName := ⟨RX11, "restart", "()I"⟩
abbrev cX11_missing : ByteArray := prog_13_method_10_code
def yX11_missing : MethodName := ⟨RX11, "missing", "(IZ)I"⟩
abbrev cX11_put : ByteArray := prog_13_method_11_code
def yX11_put : MethodName := ⟨RX11, "put", "(II)I"⟩
abbrev cX11_cell : ByteArray := prog_13_method_12_code
def yX11_cell : MethodName := ⟨RX11, "cell", "(I)I"⟩
abbrev cX11_feed : ByteArray := prog_13_method_13_code
def yX11_feed : MethodName := ⟨RX11, "feed", "(I)I"⟩
abbrev cX11_clear : ByteArray := prog_13_method_14_code
def yX11_clear : MethodName := ⟨RX11, "clear", "()I"⟩
abbrev cX11_here : ByteArray := prog_13_method_15_code
def yX11_here : MethodName := ⟨RX11, "here", "()I"⟩
abbrev cX11_must : ByteArray := prog_13_method_16_code
def yX11_must : MethodName := ⟨RX11, "must", "(ZI)V"⟩
abbrev cX11_takes : ByteArray := prog_13_method_17_code
def yX11_takes : MethodName := ⟨RX11, "takes", "(I)V"⟩
abbrev cX11_isWord : ByteArray := prog_13_method_18_code
def yX11_isWord : MethodName := ⟨RX11, "isWord", "(II)Z"⟩
abbrev cX11_word : ByteArray := prog_13_method_19_code
def yX11_word : MethodName := ⟨RX11, "word", "()I"⟩
abbrev cX11_number : ByteArray := prog_13_method_20_code
def yX11_number : MethodName := ⟨RX11, "number", "(IIZ)I"⟩
abbrev cX11_statement1 : ByteArray := prog_13_method_21_code
def yX11_statement1 : MethodName := ⟨RX11, "statement1", "(I)V"⟩
abbrev cX11_tells : ByteArray := prog_13_method_22_code
def yX11_tells : MethodName := ⟨RX11, "tells", "(IIIII)V"⟩
abbrev cX11_program : ByteArray := prog_13_method_23_code
def yX11_program : MethodName := ⟨RX11, "program", "(I)I"⟩
abbrev cX11_field : ByteArray := prog_13_method_24_code
def yX11_field : MethodName := ⟨RX11, "field", "(III)I"⟩
abbrev cX11_statement : ByteArray := prog_13_method_25_code
def yX11_statement : MethodName := ⟨RX11, "statement", "(III)I"⟩
abbrev cX11_isOwner : ByteArray := prog_13_method_26_code
def yX11_isOwner : MethodName := ⟨RX11, "isOwner", "(II)Z"⟩
abbrev cX11_comes : ByteArray := prog_13_method_27_code
def yX11_comes : MethodName := ⟨RX11, "comes", "(IIII)V"⟩
abbrev cX11_leaves : ByteArray := prog_13_method_28_code
def yX11_leaves : MethodName := ⟨RX11, "leaves", "(III)I"⟩
abbrev cX11_frees : ByteArray := prog_13_method_29_code
def yX11_frees : MethodName := ⟨RX11, "frees", "(I)V"⟩
abbrev cX11_ends : ByteArray := prog_13_method_30_code
def yX11_ends : MethodName := ⟨RX11, "ends", "(II)V"⟩
abbrev cX11_enters : ByteArray := prog_13_method_31_code
def yX11_enters : MethodName := ⟨RX11, "enters", "(II)V"⟩
abbrev cX11_notifies : ByteArray := prog_13_method_32_code
def yX11_notifies : MethodName := ⟨RX11, "notifies", "(IZ)V"⟩
abbrev cX11_monitors : ByteArray := prog_13_method_33_code
def yX11_monitors : MethodName := ⟨RX11, "monitors", "(III)V"⟩
abbrev cX11_steps : ByteArray := prog_13_method_34_code
def yX11_steps : MethodName := ⟨RX11, "steps", "(I)V"⟩
abbrev cX11_stepsTruly : ByteArray := prog_13_method_35_code
def yX11_stepsTruly : MethodName := ⟨RX11, "stepsTruly", "(I)V"⟩
abbrev cX11_isReady : ByteArray := prog_13_method_36_code
def yX11_isReady : MethodName := ⟨RX11, "isReady", "(I)Z"⟩
abbrev cX11_step : ByteArray := prog_13_method_37_code
def yX11_step : MethodName := ⟨RX11, "step", "(I)I"⟩
abbrev cX11_chosen : ByteArray := prog_13_method_38_code
def yX11_chosen : MethodName := ⟨RX11, "chosen", "(I)I"⟩
abbrev cX11_run : ByteArray := prog_13_method_39_code
def yX11_run : MethodName := ⟨RX11, "run", "(II)I"⟩
abbrev cX11_follow : ByteArray := prog_13_method_40_code
def yX11_follow : MethodName := ⟨RX11, "follow", "(III)I"⟩
abbrev cX11_standsAt : ByteArray := prog_13_method_41_code
def yX11_standsAt : MethodName := ⟨RX11, "standsAt", "(I)I"⟩
abbrev cX11_ownedBy : ByteArray := prog_13_method_42_code
def yX11_ownedBy : MethodName := ⟨RX11, "ownedBy", "([III)I"⟩
abbrev cX11_of : ByteArray := prog_13_method_43_code
def yX11_of : MethodName := ⟨RX11, "of", "(II)I"⟩
abbrev cX11_gate : ByteArray := prog_13_method_44_code
def yX11_gate : MethodName := ⟨RX11, "gate", "(II)I"⟩
abbrev cX11_stands : ByteArray := prog_13_method_45_code
def yX11_stands : MethodName := ⟨RX11, "stands", "(III)I"⟩
abbrev cX11_areIn : ByteArray := prog_13_method_46_code
def yX11_areIn : MethodName := ⟨RX11, "areIn", "([III)I"⟩
abbrev cX11_are : ByteArray := prog_13_method_47_code
def yX11_are : MethodName := ⟨RX11, "are", "(I)I"⟩
abbrev cX11_sticks : ByteArray := prog_13_method_48_code
def yX11_sticks : MethodName := ⟨RX11, "sticks", "([II)Z"⟩
abbrev cX11_isOver : ByteArray := prog_13_method_49_code
def yX11_isOver : MethodName := ⟨RX11, "isOver", "([II)Z"⟩
abbrev cX11_told : ByteArray := prog_13_method_50_code
def yX11_told : MethodName := ⟨RX11, "told", "(I)I"⟩
abbrev cX11_cause : ByteArray := prog_13_method_51_code
def yX11_cause : MethodName := ⟨RX11, "cause", "(II)I"⟩
abbrev cX11_isLike : ByteArray := prog_13_method_52_code
def yX11_isLike : MethodName := ⟨RX11, "isLike", "(I)Z"⟩
abbrev cX11_finds : ByteArray := prog_13_method_53_code
def yX11_finds : MethodName := ⟨RX11, "finds", "(II)V"⟩
abbrev cX11_findsAll : ByteArray := prog_13_method_54_code
def yX11_findsAll : MethodName := ⟨RX11, "findsAll", "()V"⟩
abbrev cX11_firstSticking : ByteArray := prog_13_method_55_code
def yX11_firstSticking : MethodName := ⟨RX11, "firstSticking", "()I"⟩
abbrev cX11_firstFailing : ByteArray := prog_13_method_56_code
def yX11_firstFailing : MethodName := ⟨RX11, "firstFailing", "()I"⟩
abbrev cX11_deepest : ByteArray := prog_13_method_57_code
def yX11_deepest : MethodName := ⟨RX11, "deepest", "()I"⟩
abbrev cX11_areCellsLike : ByteArray := prog_13_method_58_code
def yX11_areCellsLike : MethodName := ⟨RX11, "areCellsLike", "(II)Z"⟩
abbrev cX11_isOutcome : ByteArray := prog_13_method_59_code
def yX11_isOutcome : MethodName := ⟨RX11, "isOutcome", "(I)Z"⟩
abbrev cX11_outcomeAt : ByteArray := prog_13_method_60_code
def yX11_outcomeAt : MethodName := ⟨RX11, "outcomeAt", "(I)I"⟩
abbrev cX11_isNested : ByteArray := prog_13_method_61_code
def yX11_isNested : MethodName := ⟨RX11, "isNested", "()Z"⟩
abbrev cX11_manyOf : ByteArray := prog_13_method_62_code
def yX11_manyOf : MethodName := ⟨RX11, "manyOf", "(Z)I"⟩
abbrev cX11_found : ByteArray := prog_13_method_63_code
def yX11_found : MethodName := ⟨RX11, "found", "(I)I"⟩
abbrev cX11_goal : ByteArray := prog_13_method_64_code
def yX11_goal : MethodName := ⟨RX11, "goal", "(I)I"⟩
abbrev cX11_onWay : ByteArray := prog_13_method_65_code
def yX11_onWay : MethodName := ⟨RX11, "onWay", "(II)I"⟩
abbrev cX11_schedule : ByteArray := prog_13_method_66_code
def yX11_schedule : MethodName := ⟨RX11, "schedule", "(II)I"⟩
abbrev cX11_lay : ByteArray := prog_13_method_67_code
def yX11_lay : MethodName := ⟨RX11, "lay", "(III)I"⟩
abbrev cX11_outcome : ByteArray := prog_13_method_68_code
def yX11_outcome : MethodName := ⟨RX11, "outcome", "(II)I"⟩
abbrev cX11_underIn : ByteArray := prog_13_method_69_code
def yX11_underIn : MethodName := ⟨RX11, "underIn", "(I)I"⟩
abbrev cX11_under : ByteArray := prog_13_method_70_code
def yX11_under : MethodName := ⟨RX11, "under", "(I)I"⟩
abbrev cX11_round : ByteArray := prog_13_method_71_code
def yX11_round : MethodName := ⟨RX11, "round", "()I"⟩
abbrev cX11_areSo : ByteArray := prog_13_method_72_code
def yX11_areSo : MethodName := ⟨RX11, "areSo", "([II)Z"⟩
abbrev cX11_condition : ByteArray := prog_13_method_73_code
def yX11_condition : MethodName := ⟨RX11, "condition", "(III)I"⟩
abbrev cX11_holds : ByteArray := prog_13_method_74_code
def yX11_holds : MethodName := ⟨RX11, "holds", "()I"⟩
abbrev cX11_isList : ByteArray := prog_13_method_75_code
def yX11_isList : MethodName := ⟨RX11, "isList", "(I)Z"⟩
abbrev cX11_list : ByteArray := prog_13_method_76_code
def yX11_list : MethodName := ⟨RX11, "list", "(II)I"⟩
abbrev cX11_set : ByteArray := prog_13_method_77_code
def yX11_set : MethodName := ⟨RX11, "set", "(III)I"⟩
abbrev cX11_get : ByteArray := prog_13_method_78_code
def yX11_get : MethodName := ⟨RX11, "get", "(II)I"⟩
abbrev cX11_image : ByteArray := prog_13_method_79_code
def yX11_image : MethodName := ⟨RX11, "image", "()I"⟩
abbrev cX11_back : ByteArray := prog_13_method_80_code
def yX11_back : MethodName := ⟨RX11, "back", "()I"⟩
def RJx145de : String := "java/io/Serializable"
def RJx9f9b0 : String := "java/lang/CharSequence"
def RJxb160c : String := "java/lang/Comparable"
def RJ9 : String := "java/lang/Math"
abbrev cJ9_min_7cf53 : ByteArray := prog_14_method_69_code
def yJ9_min_7cf53 : MethodName := ⟨RJ9, "min", "(II)I"⟩
def RJ0 : String := "java/lang/String"
abbrev cJ0_length_8abf5 : ByteArray := prog_15_method_54_code
def yJ0_length_8abf5 : MethodName := ⟨RJ0, "length", "()I"⟩
abbrev cJ0_charAt_5068e : ByteArray := prog_15_method_56_code
def yJ0_charAt_5068e : MethodName := ⟨RJ0, "charAt", "(I)C"⟩
abbrev cJ0_coder_7d493 : ByteArray := prog_15_method_152_code
def yJ0_coder_7d493 : MethodName := ⟨RJ0, "coder", "()B"⟩
abbrev cJ0_isLatin1_aae02 : ByteArray := prog_15_method_154_code
def yJ0_isLatin1_aae02 : MethodName := ⟨RJ0, "isLatin1", "()Z"⟩
abbrev cJ0_checkIndex_df160 : ByteArray := prog_15_method_155_code
def yJ0_checkIndex_df160 : MethodName := ⟨RJ0, "checkIndex", "(II)V"⟩
def RJ1 : String := "java/lang/StringLatin1"
abbrev cJ1_charAt_3b067 : ByteArray := prog_16_method_2_code
def yJ1_charAt_3b067 : MethodName := ⟨RJ1, "charAt", "([BI)C"⟩
def RJ2 : String := "java/lang/StringUTF16"
abbrev cJ2_getChar_3b067 : ByteArray := prog_17_method_5_code
def yJ2_getChar_3b067 : MethodName := ⟨RJ2, "getChar", "([BI)C"⟩
abbrev cJ2_length_9d52b : ByteArray := prog_17_method_6_code
def yJ2_length_9d52b : MethodName := ⟨RJ2, "length", "([B)I"⟩
abbrev cJ2_charAt_3b067 : ByteArray := prog_17_method_83_code
def yJ2_charAt_3b067 : MethodName := ⟨RJ2, "charAt", "([BI)C"⟩
abbrev cJ2_checkIndex_2214a : ByteArray := prog_17_method_91_code
def yJ2_checkIndex_2214a : MethodName := ⟨RJ2, "checkIndex", "(I[B)V"⟩
def RJ10 : String := "java/lang/System"
def RJxfd54e : String := "java/lang/constant/Constable"
def RJx3cf43 : String := "java/lang/constant/ConstantDesc"
def RJ7 : String := "java/util/Arrays"
abbrev cJ7_fill_53178 : ByteArray := prog_19_method_103_code
def yJ7_fill_53178 : MethodName := ⟨RJ7, "fill", "([II)V"⟩
def RJ3 : String := "jdk/internal/util/Preconditions"
abbrev cJ3_checkIndex_8e157 : ByteArray := prog_20_method_11_code
def yJ3_checkIndex_8e157 : MethodName := ⟨RJ3, "checkIndex", "(IILjava/util/function/BiFunction;)I"⟩
def RL : String := "GateTurnsLaw"
abbrev cL_law : ByteArray := code
def yL_law : MethodName := ⟨RL, "law", "([I)Z"⟩
abbrev vwCl : List vw_C := [(RX0, TX0, 4), (RX1, TX1, 14), (RX2, TX2, 2), (RX3, TX3, 2), (RX4, TX4, 4), (RX6, TX6, 15), (RX7, TX7, 4), (RX8, TX8, 2), (RX9, TX9, 3), (RX10, TX10, 9), (RX11, TX11, 29)]
end
section
/-! THE FLAT MEMORY: every cell that the law makes stands at a number; its ints are f a k; its layout (kind, length, references) is a list. A method's walk is a judgement 'A' over locals, stack and memory; the machine's own words stand behind it. -/
abbrev Mem : Type := Nat → Nat → Int32
/-- kind (0 int[], 1 boolean[], 2 Program[], 3 int[][], 4 + c an object of the class c), length, for each place 0 (a number), 1 (null), a + 2 (the cell a) -/
abbrev Ly : Type := Nat × Nat × List Nat
/-- name, bytes, locals, answer, frames, words -/
abbrev MT : Type := MethodName × ByteArray × Nat × Option FieldType × Nat × Nat
def gw : List Cond := lw_tbl.filter goodWord
theorem mem_gw {w : Cond} (i : Nat) (h : lw_tbl[i]? = some w) (hg : goodWord w = true) : w ∈ gw := List.mem_filter.mpr ⟨List.mem_of_getElem? h, hg⟩
abbrev gt_y (M : MT) : MethodName := M.1
abbrev gt_c (M : MT) : ByteArray := M.2.1
abbrev gt_L (M : MT) : Nat := M.2.2.1
abbrev gt_r (M : MT) : Option FieldType := M.2.2.2.1
abbrev gt_fr (M : MT) : Nat := M.2.2.2.2.1
abbrev gt_wo (M : MT) : Nat := M.2.2.2.2.2
abbrev gt_R (M : MT) (mc ms : Nat) : Room := { frames := gt_fr M, cells := mc, slots := ms, locals := gt_wo M }
abbrev gt_ws (M : MT) : List Cond := Cond.code (gt_y M) (gt_c M) (gt_L M) (gt_r M) :: gw
def cz (al : Nat → Nat) : Value → Value
  | .ref a => .ref (al a)
  | .int x => .int x
  | .long x => .long x
  | .float x => .float x
  | .double x => .double x
  | .null => .null
  | .retAddr x => .retAddr x
theorem cz_cat (al : Nat → Nat) (v : Value) : (cz al v).category = v.category := by cases v <;> rfl
/-- one row becomes g -/
def ur (f : Mem) (a : Nat) (g : Nat → Int32) : Mem := fun b => if b = a then g else f b
/-- one number becomes x -/
def u2 (f : Mem) (a k : Nat) (x : Int32) : Mem := ur f a (upd (f a) k x)
theorem ur_s (f : Mem) (a : Nat) (g : Nat → Int32) : ur f a g a = g := if_pos rfl
theorem ur_n (f : Mem) {a b : Nat} (g : Nat → Int32) (h : b ≠ a) : ur f a g b = f b := if_neg h
theorem u2_s (f : Mem) (a k : Nat) (x : Int32) : u2 f a k x a = upd (f a) k x := if_pos rfl
theorem u2_n (f : Mem) {a b : Nat} (k : Nat) (x : Int32) (h : b ≠ a) : u2 f a k x b = f b := if_neg h
theorem upd_s (f : Nat → Int32) (k : Nat) (x : Int32) : upd f k x k = x := if_pos rfl
theorem upd_n (f : Nat → Int32) {k j : Nat} (x : Int32) (h : j ≠ k) : upd f k x j = f j := if_neg h
def gt_fv (al : Nat → Nat) (f : Nat → Int32) (k : Nat) : Nat → Value
  | 0 => .int (f k)
  | 1 => .null
  | n + 2 => .ref (al n)
def gt_fl (al : Nat → Nat) (f : Nat → Int32) : Nat → List Nat → List Value
  | _, [] => []
  | k, o :: t => gt_fv al f k o :: gt_fl al f (k + 1) t
def gt_ro (al : Nat → Nat) : Nat → Option Nat
  | n + 2 => some (al n)
  | _ => none
def gt_ra (al : Nat → Nat) (l : List Nat) (j : Nat) : Option Nat := gt_ro al (l.getD j 1)
def gt_we (al : Nat → Nat) (ac : Nat → ClassId) (f : Nat → Int32) (q : Ly) : va_E := match q.1 with
  | 0 => .inl (ac 0, q.2.1, .inl f)
  | 1 => .inl (ac 1, q.2.1, .inl f)
  | 2 => .inl (ac 2, q.2.1, .inr (.inr (.inr (.inr (gt_ra al q.2.2)))))
  | 3 => .inl (ac 3, q.2.1, .inr (.inr (.inr (.inr (gt_ra al q.2.2)))))
  | n + 4 => .inr (n, gt_fl al f 0 q.2.2)
def gt_wl (al : Nat → Nat) (ac : Nat → ClassId) (f : Mem) : Nat → List Ly → va_W
  | _, [] => []
  | i, q :: t => (al i, gt_we al ac (f i) q) :: gt_wl al ac f (i + 1) t
theorem gt_fl_at (al : Nat → Nat) (f : Nat → Int32) : ∀ (l : List Nat) (k0 k : Nat), (gt_fl al f k0 l)[k]? = (l[k]?).map (gt_fv al f (k0 + k))
  | [], _, _ => by simp [gt_fl]
  | o :: t, k0, 0 => by simp [gt_fl]
  | o :: t, k0, k + 1 => by
    rw [gt_fl, List.getElem?_cons_succ, List.getElem?_cons_succ, gt_fl_at al f t (k0 + 1) k]
    rw [show k0 + 1 + k = k0 + (k + 1) by omega]
theorem gt_fl_len (al : Nat → Nat) (f : Nat → Int32) : ∀ (l : List Nat) (k0 : Nat), (gt_fl al f k0 l).length = l.length
  | [], _ => rfl
  | o :: t, k0 => by simp [gt_fl, gt_fl_len al f t (k0 + 1)]
theorem gt_fv_upd (al : Nat → Nat) (f : Nat → Int32) {j k : Nat} (x : Int32) (h : k ≠ j) (o : Nat) : gt_fv al (upd f j x) k o = gt_fv al f k o := by
  match o with
  | 0 => simp [gt_fv, upd_n f x h]
  | 1 => rfl
  | n + 2 => rfl
theorem gt_fl_out (al : Nat → Nat) (f : Nat → Int32) (x : Int32) : ∀ (l : List Nat) (k0 j : Nat), j < k0 → gt_fl al (upd f j x) k0 l = gt_fl al f k0 l
  | [], _, _, _ => rfl
  | o :: t, k0, j, h => by
    rw [gt_fl, gt_fl, gt_fl_out al f x t (k0 + 1) j (by omega), gt_fv_upd al f x (by omega)]
theorem gt_fl_set (al : Nat → Nat) (f : Nat → Int32) (x : Int32) : ∀ (l : List Nat) (k0 k : Nat), l[k]? = some 0 → (gt_fl al f k0 l).set k (.int x) = gt_fl al (upd f (k0 + k) x) k0 l
  | [], _, _, h => by simp at h
  | o :: t, k0, 0, h => by
    simp at h
    subst h
    simp only [gt_fl, List.set_cons_zero, Nat.add_zero]
    rw [gt_fl_out al f x t (k0 + 1) k0 (by omega)]
    simp [gt_fv, upd_s]
  | o :: t, k0, k + 1, h => by
    rw [List.getElem?_cons_succ] at h
    simp only [gt_fl, List.set_cons_succ]
    rw [gt_fl_set al f x t (k0 + 1) k h, gt_fv_upd al f x (by omega), show k0 + 1 + k = k0 + (k + 1) by omega]
theorem gt_fl_setq (al : Nat → Nat) (f : Nat → Int32) (a : Nat) : ∀ (l : List Nat) (k0 k : Nat), (gt_fl al f k0 l).set k (.ref (al a)) = gt_fl al f k0 (l.set k (a + 2))
  | [], _, _ => by simp [gt_fl]
  | o :: t, k0, 0 => by simp [gt_fl, gt_fv]
  | o :: t, k0, k + 1 => by
    simp only [gt_fl, List.set_cons_succ]
    rw [gt_fl_setq al f a t (k0 + 1) k]
theorem gt_wl_at (al : Nat → Nat) (ac : Nat → ClassId) (f : Mem) : ∀ (l : List Ly) (i0 k : Nat), (gt_wl al ac f i0 l)[k]? = (l[k]?).map (fun q => (al (i0 + k), gt_we al ac (f (i0 + k)) q))
  | [], _, _ => by simp [gt_wl]
  | o :: t, i0, 0 => by simp [gt_wl]
  | o :: t, i0, k + 1 => by
    rw [gt_wl, List.getElem?_cons_succ, List.getElem?_cons_succ, gt_wl_at al ac f t (i0 + 1) k]
    rw [show i0 + 1 + k = i0 + (k + 1) by omega]
theorem gt_wl_len (al : Nat → Nat) (ac : Nat → ClassId) (f : Mem) : ∀ (l : List Ly) (i0 : Nat), (gt_wl al ac f i0 l).length = l.length
  | [], _ => rfl
  | o :: t, i0 => by simp [gt_wl, gt_wl_len al ac f t (i0 + 1)]
theorem gt_wl_low (al : Nat → Nat) (ac : Nat → ClassId) (f : Mem) (g : Nat → Int32) : ∀ (l : List Ly) (i0 j : Nat), j < i0 → gt_wl al ac (ur f j g) i0 l = gt_wl al ac f i0 l
  | [], _, _, _ => rfl
  | o :: t, i0, j, h => by
    rw [gt_wl, gt_wl, gt_wl_low al ac f g t (i0 + 1) j (by omega), ur_n f g (by omega)]
theorem gt_wl_high (al : Nat → Nat) (ac : Nat → ClassId) (f : Mem) (g : Nat → Int32) : ∀ (l : List Ly) (i0 j : Nat), i0 + l.length ≤ j → gt_wl al ac (ur f j g) i0 l = gt_wl al ac f i0 l
  | [], _, _, _ => rfl
  | o :: t, i0, j, h => by
    simp only [List.length_cons] at h
    rw [gt_wl, gt_wl, gt_wl_high al ac f g t (i0 + 1) j (by omega), ur_n f g (by omega)]
theorem gt_wl_set (al : Nat → Nat) (ac : Nat → ClassId) (f : Mem) (g : Nat → Int32) : ∀ (l : List Ly) (i0 k : Nat) (q : Ly), l[k]? = some q → (gt_wl al ac f i0 l).set k (al (i0 + k), gt_we al ac g q) = gt_wl al ac (ur f (i0 + k) g) i0 l
  | [], _, _, _, h => by simp at h
  | o :: t, i0, 0, q, h => by
    simp at h
    subst h
    simp only [gt_wl, List.set_cons_zero, Nat.add_zero]
    rw [gt_wl_low al ac f g t (i0 + 1) i0 (by omega), ur_s]
  | o :: t, i0, k + 1, q, h => by
    rw [List.getElem?_cons_succ] at h
    have e := gt_wl_set al ac f g t (i0 + 1) k q h
    rw [show i0 + 1 + k = i0 + (k + 1) by omega] at e
    simp only [gt_wl, List.set_cons_succ]
    rw [e, ur_n f g (by omega)]
theorem gt_wl_setq (al : Nat → Nat) (ac : Nat → ClassId) (f : Mem) (q' : Ly) : ∀ (l : List Ly) (i0 k : Nat), (gt_wl al ac f i0 l).set k (al (i0 + k), gt_we al ac (f (i0 + k)) q') = gt_wl al ac f i0 (l.set k q')
  | [], _, _ => by simp [gt_wl]
  | o :: t, i0, 0 => by simp [gt_wl]
  | o :: t, i0, k + 1 => by
    have e := gt_wl_setq al ac f q' t (i0 + 1) k
    rw [show i0 + 1 + k = i0 + (k + 1) by omega] at e
    simp only [gt_wl, List.set_cons_succ]
    rw [e]
theorem gt_wl_app (al : Nat → Nat) (ac : Nat → ClassId) (f : Mem) (q : Ly) : ∀ (l : List Ly) (i0 : Nat), gt_wl al ac f i0 (l ++ [q]) = gt_wl al ac f i0 l ++ [(al (i0 + l.length), gt_we al ac (f (i0 + l.length)) q)]
  | [], _ => by simp [gt_wl]
  | o :: t, i0 => by
    simp only [gt_wl, List.cons_append, List.length_cons]
    rw [gt_wl_app al ac f q t (i0 + 1), show i0 + 1 + t.length = i0 + (t.length + 1) by omega]
abbrev gt_wd (al : Nat → Nat) (ac : Nat → ClassId) (lay : List Ly) (f : Mem) : va_W := gt_wl al ac f 0 lay
theorem gt_wd_at {al : Nat → Nat} {ac : Nat → ClassId} {lay : List Ly} {f : Mem} {a : Nat} {q : Ly} (h : lay[a]? = some q) : (gt_wd al ac lay f)[a]? = some (al a, gt_we al ac (f a) q) := by
  rw [gt_wl_at, h, Nat.zero_add]
  rfl
theorem gt_wd_set {al : Nat → Nat} {ac : Nat → ClassId} {lay : List Ly} {f : Mem} {a : Nat} {q : Ly} (h : lay[a]? = some q) (g : Nat → Int32) : (gt_wd al ac lay f).set a (al a, gt_we al ac g q) = gt_wd al ac lay (ur f a g) := by
  have e := gt_wl_set al ac f g lay 0 a q h
  rw [Nat.zero_add] at e
  exact e
/-- the law's cells lie side by side, from al 0 on -/
def gt_al (al : Nat → Nat) : Prop := ∀ i, i < 1000 → al i = al 0 + i
abbrev gt_A (al : Nat → Nat) : Nat → Prop := fun q => al 0 ≤ q
theorem gt_D {al : Nat → Nat} (h : gt_al al) (ac : Nat → ClassId) {lay : List Ly} (hl : lay.length < 1000) (f : Mem) : va_D (gt_A al) (gt_wd al ac lay f) := by
  have key : ∀ (k : Nat) (q : Nat × va_E), (gt_wd al ac lay f)[k]? = some q → q.1 = al 0 + k := by
    intro k q hk
    have hlt : k < lay.length := by
      have := (List.getElem?_eq_some_iff.mp hk).1
      rwa [gt_wl_len] at this
    rw [gt_wl_at, Nat.zero_add] at hk
    cases hq : lay[k]? with
    | none => rw [hq] at hk; cases hk
    | some z =>
      rw [hq] at hk
      cases hk
      exact h k (by omega)
  refine ⟨fun i j p q hi hj e => ?_, fun k q hk => ?_⟩
  · have h1 := key i p hi
    have h2 := key j q hj
    omega
  · have h1 := key k q hk
    show al 0 ≤ q.1
    omega
def gt_tx (i : Nat) : String := ["enter", "leave", "wait", "notify", "all", "add", "set", "if", "jump"].getD i ""
def gt_len : List Nat := [5, 5, 4, 6, 3, 3, 3, 2, 4]
def gt_byt : List (List Int32) := [[101, 110, 116, 101, 114], [108, 101, 97, 118, 101], [119, 97, 105, 116], [110, 111, 116, 105, 102, 121], [97, 108, 108], [97, 100, 100], [115, 101, 116], [105, 102], [106, 117, 109, 112]]
end
section
/-- links between nest mates, which aren't among the good words -/
def gt_nest : List (String × Nat × MethodName) := [(RX1, 59, yX3_init), (RX10, 25, yX4_init), (RX4, 11, yX8_init), (RX4, 20, yX3_init), (RX10, 37, yX9_init), (RX10, 44, yX0_init), (RX10, 51, yX6_init), (RX6, 24, yX7_init), (RX1, 120, yX10_isCellNumber), (RX2, 26, yX10_isList), (RX1, 136, yX10_isMonitor)]
abbrev gt_tys (ac : Nat → ClassId) : List (ClassId × FieldType) := [(ac 0, .int), (ac 1, .boolean), (ac 2, .object RX3), (ac 3, .array .int)]
/-- what the tables say, at any state of the run -/
def gt_K (D : va_G) (al : Nat → Nat) (ac : Nat → ClassId) (U : State) : Prop := va_K D vwCl (gt_tys ac) U ∧ (∀ q ∈ gt_nest, va_Nw (.methodLinkNest q.1 q.2.1 q.2.2 RX10) U) ∧ (∀ i, i < 9 → vk_R RX4 (76 + 2 * i) (gt_tx i) (al (1000 + i)) U) ∧ va_AO RX3 U
/-- what lies outside the law's cells and is only read -/
def gt_E (al : Nat → Nat) (U : State) (H : Heap) : Prop := vk_S 9 gt_len gt_byt (fun i => al (1000 + i)) (fun i => al (1100 + i)) (gt_A al) U H ∧ va_Z "java/lang/String" "COMPACT_STRINGS" "Z" (.int 1) (gt_A al) U H ∧ va_Zq "jdk/internal/util/Preconditions" "SIOOBE_FORMATTER" "Ljava/util/function/BiFunction;" (gt_A al) U H
theorem gt_K.warm {D : va_G} {al : Nat → Nat} {ac : Nat → ClassId} {s U : State} (hW : s.WarmedH U.vm) (h : gt_K D al ac s) : gt_K D al ac U :=
  ⟨va_K.moved hW.alike h.1, fun q hq => va_Nw.warmM hW (h.2.1 q hq), fun i hi => vk_R.warm hW (h.2.2.1 i hi), va_AO.moved hW.alike h.2.2.2⟩
theorem gt_E.move {al : Nat → Nat} {s U : State} {H : Heap} {locs : List Loc} (hW : s.vm.Alike U.vm) (h : gt_E al s s.heap) (hS : va_S (gt_A al) s.heap H locs) : gt_E al U H :=
  ⟨vk_S.moved hW (h.1.kept hS.2.1), va_Z.moved hW (h.2.1.kept hS.2.1), va_Zq.moved hW (h.2.2.kept hS.2.1)⟩
/-- a method's start: the cells, the tables, the heap's size -/
def gt_P (D : va_G) (al : Nat → Nat) (ac : Nat → ClassId) (lay : List Ly) (f : Mem) (U : State) : Prop := va_P D vwCl (gt_wd al ac lay f) U.heap ∧ gt_K D al ac U ∧ gt_E al U U.heap ∧ U.heap.size = al lay.length
/-- its end -/
def gt_Q (D : va_G) (al : Nat → Nat) (ac : Nat → ClassId) (lay : List Ly) (post : Option Value → Mem → Prop) : Array Value → State → Outcome → State → Prop := fun _ st oc t =>
  (∃ (r : Option Value) (f : Mem), oc = .returned (r.map (cz al)) ∧ post r f ∧ va_P D vwCl (gt_wd al ac lay f) t.heap) ∧ va_F (gt_A al) st t
/-- A CONTRACT: from the arguments as and the memory f the method returns; post says of its answer and of the memory then; layout before and behind, cells and slots made -/
def Ct (M : MT) (mc ms : Nat) (lay lay' : List Ly) (as : List Value) (f : Mem) (post : Option Value → Mem → Prop) : Prop :=
  ∀ (l : Launch) (D : va_G) (al : Nat → Nat) (ac : Nat → ClassId), gt_al al → lay.length < 1000 → Met l (gt_y M) (gt_ws M) (gt_R M mc ms) (va_Pc (as.map (cz al)) (gt_P D al ac lay f)) (gt_Q D al ac lay' post) mc ms (gt_A al)
abbrev XT : Type := (Nat → Nat) → Array Value → State → Prop
abbrev ZT : Type := List Frame → Array Value → State → va_G → (Nat → Nat) → (Nat → ClassId) → State → Prop
/-- method, room, cells and slots made so far, what else is known, the goal, the layout -/
abbrev CT : Type := MT × Room × Nat × Nat × XT × ZT × List Ly
def gt_nX : XT := fun _ _ _ => True
def gt_Z (mc ms : Nat) (lay : List Ly) (post : Option Value → Mem → Prop) : ZT := fun below args s D al ac => MQ below (gt_Q D al ac lay post) args s mc ms (gt_A al)
/-- the machine stands in the method M -/
def gt_X (M : MT) (p : Program) (s : State) (m : MethodId) (args : Array Value) (meth : Method) (cc : Code) : Prop :=
  p.tables.exec = Jvm.exec ∧ cc.code = gt_c M ∧ cc.maxLocals = gt_L M ∧ meth.sig.returnType = gt_r M ∧ meth.locks = false ∧ s.vm.findClass (gt_y M).cls = some m.cls ∧ (∀ w ∈ gw, w.before args s = true) ∧ ((gt_y M).name = "<init>" → meth.name = "<init>")
def gt_S (c : CT) (D : va_G) (al : Nat → Nat) (ac : Nat → ClassId) (args : Array Value) (s : State) : Prop :=
  gt_al al ∧ c.2.2.2.2.2.2.length < 1000 ∧ gt_K D al ac s ∧ gt_E al s s.heap ∧ c.2.2.2.2.1 al args s ∧ s.heap.size + c.2.2.1 = al c.2.2.2.2.2.2.length ∧ al 0 ≤ s.heap.size
def gt_lv (al : Nat → Nat) (lv : List (Nat × Value)) : List (Nat × Value) := lv.map fun q => (q.1, cz al q.2)
/-- THE JUDGEMENT: from here the machine comes to the goal -/
def A (c : CT) (pc : Nat) (lv : List (Nat × Value)) (st : List Value) (f : Mem) : Prop :=
  ∀ (p : Program) (l : Launch) (e : Env) (s : State) (m : MethodId) (args : Array Value) (below : List Frame) (meth : Method) (cc : Code) (H : Heap) (locs : List Loc) (ls : Array Slot) (D : va_G) (al : Nat → Nat) (ac : Nat → ClassId),
    gt_X c.1 p s m args meth cc → gt_S c D al ac args s → va_P D vwCl (gt_wd al ac c.2.2.2.2.2.2 f) H → va_S (gt_A al) s.heap H locs → lv_has ls (gt_L c.1) (gt_lv al lv) →
    W p l e c.2.1 s m args below meth cc H locs c.2.2.1 c.2.2.2.1 (c.2.2.2.2.2.1 below args s D al ac) (F0 m pc ls (st.map (cz al)))
abbrev cM (M : MT) (mc ms : Nat) (lay lay' : List Ly) (post : Option Value → Mem → Prop) : CT := (M, gt_R M mc ms, 0, 0, gt_nX, gt_Z mc ms lay' post, lay)
theorem gt_lv_args (al : Nat → Nat) : ∀ (as : List Value) (i : Nat), lv_args i (as.map (cz al)) = gt_lv al (lv_args i as)
  | [], _ => rfl
  | v :: vs, i => by
    show (i, cz al v) :: lv_args _ (vs.map (cz al)) = (i, cz al v) :: gt_lv al (lv_args _ vs)
    rw [cz_cat, gt_lv_args al vs]
theorem gt_sl_len (al : Nat → Nat) : ∀ (as : List Value), (lg_sl (as.map (cz al))).length = (lg_sl as).length
  | [] => rfl
  | v :: vs => by
    have h := gt_sl_len al vs
    unfold lg_sl at h ⊢
    rw [List.map_cons, List.flatMap_cons, List.flatMap_cons, List.length_append, List.length_append, h, cz_cat]
    congr 1
    split <;> rfl
/-- a contract out of a walk from the entry -/
theorem Ct.of {M : MT} {mc ms : Nat} {lay lay' : List Ly} {as : List Value} {f : Mem} {post : Option Value → Mem → Prop} {lv : List (Nat × Value)} (hy : plainName (gt_y M).cls = true) (hn : (lg_sl as).length ≤ gt_L M) (hlv : lv_args 0 as = lv)
    (h : A (cM M mc ms lay lay' post) 0 lv [] f) : Ct M mc ms lay lay' as f post := by
  intro l D al ac hal hlen
  refine Met.ofW (cc := gt_c M) (maxL := gt_L M) (ret := gt_r M) hy rfl ?_
  intro p e s m args below meth c s₁ B hml hv
  obtain ⟨rfl, hP, hK, hE, hz⟩ := hv
  have hts := atoms_spec (ws := gt_ws M) B.pre
  have hown : s.vm.findClass (gt_y M).cls = some m.cls := findClass_of_methodNamed B.named
  have hl := lv_entry (as.map (cz al)) (n := gt_L M) (by rw [gt_sl_len]; exact hn)
  rw [lg_entry_eq]
  generalize (lg_sl (as.map (cz al)) ++ List.replicate (gt_L M - (lg_sl (as.map (cz al))).length) Slot.unset).toArray = ls at hl ⊢
  rw [gt_lv_args, hlv] at hl
  exact h p l e s m _ below meth c s.heap [] ls D al ac ⟨B.exec, B.bytes, hml, B.returns, B.notSynchronized, hown, fun w hw => hts w (List.mem_cons_of_mem _ hw), fun hn => ((name_of_methodNamed B.named B.method).1).trans hn⟩
    ⟨hal, hlen, hK, hE, trivial, hz, by rw [hz, hal lay.length hlen]; exact Nat.le_add_right _ _⟩ hP va_S.rf hl
/-- a contract's goal may be wider -/
theorem Ct.mono {M : MT} {mc ms : Nat} {lay lay' : List Ly} {as : List Value} {f : Mem} {post post' : Option Value → Mem → Prop} (h : Ct M mc ms lay lay' as f post) (hp : ∀ r g, post r g → post' r g) : Ct M mc ms lay lay' as f post' := by
  intro l D al ac hal hlen p e ha hc hk s m args below hf hap hP hT
  obtain ⟨k, o, h1, h2, h3, ⟨⟨⟨r, g, e1, e2, e3⟩, hF⟩, hL⟩⟩ := h l D al ac hal hlen p e ha hc hk s m args below hf hap hP hT
  exact ⟨k, o, h1, h2, h3, ⟨⟨r, g, e1, hp r g e2, e3⟩, hF⟩, hL⟩
end
section
/-! the rows of the judgement: an instruction each -/
theorem A_iconst {c : CT} {pc : Nat} {lv : List (Nat × Value)} {st : List Value} {f : Mem} {n : Int} {v : Int32} (hd : decode (gt_c c.1) pc = .ok (.iconst n, 1)) (hv : Int32.ofInt n = v) (k : A c (pc + 1) lv (.int v :: st) f) : A c pc lv (st) f := fun p l e s m args below meth cc H locs ls D al ac hX hS hP hV hl => lv_iconst hX.1 hX.2.1 hd hv (k p l e s m args below meth cc H locs ls D al ac hX hS hP hV hl)
theorem A_bipush {c : CT} {pc : Nat} {lv : List (Nat × Value)} {st : List Value} {f : Mem} {n : Int} {v : Int32} (hd : decode (gt_c c.1) pc = .ok (.bipush n, 2)) (hv : (Int8.ofInt n).toInt32 = v) (k : A c (pc + 2) lv (.int v :: st) f) : A c pc lv (st) f := fun p l e s m args below meth cc H locs ls D al ac hX hS hP hV hl => lv_bipush hX.1 hX.2.1 hd hv (k p l e s m args below meth cc H locs ls D al ac hX hS hP hV hl)
theorem A_sipush {c : CT} {pc : Nat} {lv : List (Nat × Value)} {st : List Value} {f : Mem} {n : Int} {v : Int32} (hd : decode (gt_c c.1) pc = .ok (.sipush n, 3)) (hv : (Int16.ofInt n).toInt32 = v) (k : A c (pc + 3) lv (.int v :: st) f) : A c pc lv (st) f := fun p l e s m args below meth cc H locs ls D al ac hX hS hP hV hl => lv_sipush hX.1 hX.2.1 hd hv (k p l e s m args below meth cc H locs ls D al ac hX hS hP hV hl)
theorem A_lconst {c : CT} {pc : Nat} {lv : List (Nat × Value)} {st : List Value} {f : Mem} {n : Fin 2} {v : Int64} (hd : decode (gt_c c.1) pc = .ok (.lconst n, 1)) (hv : Int64.ofNat (n : Nat) = v) (k : A c (pc + 1) lv (.long v :: st) f) : A c pc lv (st) f := fun p l e s m args below meth cc H locs ls D al ac hX hS hP hV hl => lv_lconst hX.1 hX.2.1 hd hv (k p l e s m args below meth cc H locs ls D al ac hX hS hP hV hl)
theorem A_iadd {c : CT} {pc : Nat} {lv : List (Nat × Value)} {st : List Value} {f : Mem} {x y : Int32} (hd : decode (gt_c c.1) pc = .ok (.iadd, 1)) (k : A c (pc + 1) lv (.int (x + y) :: st) f) : A c pc lv (.int y :: .int x :: st) f := fun p l e s m args below meth cc H locs ls D al ac hX hS hP hV hl => lv_iadd hX.1 hX.2.1 hd (k p l e s m args below meth cc H locs ls D al ac hX hS hP hV hl)
theorem A_isub {c : CT} {pc : Nat} {lv : List (Nat × Value)} {st : List Value} {f : Mem} {x y : Int32} (hd : decode (gt_c c.1) pc = .ok (.isub, 1)) (k : A c (pc + 1) lv (.int (x - y) :: st) f) : A c pc lv (.int y :: .int x :: st) f := fun p l e s m args below meth cc H locs ls D al ac hX hS hP hV hl => lv_isub hX.1 hX.2.1 hd (k p l e s m args below meth cc H locs ls D al ac hX hS hP hV hl)
theorem A_imul {c : CT} {pc : Nat} {lv : List (Nat × Value)} {st : List Value} {f : Mem} {x y : Int32} (hd : decode (gt_c c.1) pc = .ok (.imul, 1)) (k : A c (pc + 1) lv (.int (x * y) :: st) f) : A c pc lv (.int y :: .int x :: st) f := fun p l e s m args below meth cc H locs ls D al ac hX hS hP hV hl => lv_imul hX.1 hX.2.1 hd (k p l e s m args below meth cc H locs ls D al ac hX hS hP hV hl)
theorem A_iand {c : CT} {pc : Nat} {lv : List (Nat × Value)} {st : List Value} {f : Mem} {x y : Int32} (hd : decode (gt_c c.1) pc = .ok (.iand, 1)) (k : A c (pc + 1) lv (.int (x &&& y) :: st) f) : A c pc lv (.int y :: .int x :: st) f := fun p l e s m args below meth cc H locs ls D al ac hX hS hP hV hl => lv_iand hX.1 hX.2.1 hd (k p l e s m args below meth cc H locs ls D al ac hX hS hP hV hl)
theorem A_ior {c : CT} {pc : Nat} {lv : List (Nat × Value)} {st : List Value} {f : Mem} {x y : Int32} (hd : decode (gt_c c.1) pc = .ok (.ior, 1)) (k : A c (pc + 1) lv (.int (x ||| y) :: st) f) : A c pc lv (.int y :: .int x :: st) f := fun p l e s m args below meth cc H locs ls D al ac hX hS hP hV hl => lv_ior hX.1 hX.2.1 hd (k p l e s m args below meth cc H locs ls D al ac hX hS hP hV hl)
theorem A_ixor {c : CT} {pc : Nat} {lv : List (Nat × Value)} {st : List Value} {f : Mem} {x y : Int32} (hd : decode (gt_c c.1) pc = .ok (.ixor, 1)) (k : A c (pc + 1) lv (.int (x ^^^ y) :: st) f) : A c pc lv (.int y :: .int x :: st) f := fun p l e s m args below meth cc H locs ls D al ac hX hS hP hV hl => lv_ixor hX.1 hX.2.1 hd (k p l e s m args below meth cc H locs ls D al ac hX hS hP hV hl)
theorem A_ishl {c : CT} {pc : Nat} {lv : List (Nat × Value)} {st : List Value} {f : Mem} {x y : Int32} (hd : decode (gt_c c.1) pc = .ok (.ishl, 1)) (k : A c (pc + 1) lv (.int (x <<< (y &&& 31)) :: st) f) : A c pc lv (.int y :: .int x :: st) f := fun p l e s m args below meth cc H locs ls D al ac hX hS hP hV hl => lv_ishl hX.1 hX.2.1 hd (k p l e s m args below meth cc H locs ls D al ac hX hS hP hV hl)
theorem A_ishr {c : CT} {pc : Nat} {lv : List (Nat × Value)} {st : List Value} {f : Mem} {x y : Int32} (hd : decode (gt_c c.1) pc = .ok (.ishr, 1)) (k : A c (pc + 1) lv (.int (x >>> (y &&& 31)) :: st) f) : A c pc lv (.int y :: .int x :: st) f := fun p l e s m args below meth cc H locs ls D al ac hX hS hP hV hl => lv_ishr hX.1 hX.2.1 hd (k p l e s m args below meth cc H locs ls D al ac hX hS hP hV hl)
theorem A_irem {c : CT} {pc : Nat} {lv : List (Nat × Value)} {st : List Value} {f : Mem} {x y : Int32} (hd : decode (gt_c c.1) pc = .ok (.irem, 1)) (hne : ¬ y = 0) (k : A c (pc + 1) lv (.int (x - x / y * y) :: st) f) : A c pc lv (.int y :: .int x :: st) f := fun p l e s m args below meth cc H locs ls D al ac hX hS hP hV hl => lv_irem hX.1 hX.2.1 hd hne (k p l e s m args below meth cc H locs ls D al ac hX hS hP hV hl)
theorem A_ineg {c : CT} {pc : Nat} {lv : List (Nat × Value)} {st : List Value} {f : Mem} {x : Int32} (hd : decode (gt_c c.1) pc = .ok (.ineg, 1)) (k : A c (pc + 1) lv (.int (-x) :: st) f) : A c pc lv (.int x :: st) f := fun p l e s m args below meth cc H locs ls D al ac hX hS hP hV hl => lv_ineg hX.1 hX.2.1 hd (k p l e s m args below meth cc H locs ls D al ac hX hS hP hV hl)
theorem A_iushr {c : CT} {pc : Nat} {lv : List (Nat × Value)} {st : List Value} {f : Mem} {x y : Int32} (hd : decode (gt_c c.1) pc = .ok (.iushr, 1)) (k : A c (pc + 1) lv (.int ((x.toUInt32 >>> (y.toUInt32 &&& Int32.toUInt32 31)).toInt32) :: st) f) : A c pc lv (.int y :: .int x :: st) f := fun p l e s m args below meth cc H locs ls D al ac hX hS hP hV hl => lv_iushr hX.1 hX.2.1 hd rfl (k p l e s m args below meth cc H locs ls D al ac hX hS hP hV hl)
theorem A_ladd {c : CT} {pc : Nat} {lv : List (Nat × Value)} {st : List Value} {f : Mem} {x y : Int64} (hd : decode (gt_c c.1) pc = .ok (.ladd, 1)) (k : A c (pc + 1) lv (.long (x + y) :: st) f) : A c pc lv (.long y :: .long x :: st) f := fun p l e s m args below meth cc H locs ls D al ac hX hS hP hV hl => lv_ladd hX.1 hX.2.1 hd (k p l e s m args below meth cc H locs ls D al ac hX hS hP hV hl)
theorem A_lcmp {c : CT} {pc : Nat} {lv : List (Nat × Value)} {st : List Value} {f : Mem} {x y : Int64} (hd : decode (gt_c c.1) pc = .ok (.lcmp, 1)) (k : A c (pc + 1) lv (.int (lg_cmp x y) :: st) f) : A c pc lv (.long y :: .long x :: st) f := fun p l e s m args below meth cc H locs ls D al ac hX hS hP hV hl => W.lcmp hX.1 hX.2.1 hd (k p l e s m args below meth cc H locs ls D al ac hX hS hP hV hl)
theorem A_i2l {c : CT} {pc : Nat} {lv : List (Nat × Value)} {st : List Value} {f : Mem} {x : Int32} (hd : decode (gt_c c.1) pc = .ok (.i2l, 1)) (k : A c (pc + 1) lv (.long x.toInt64 :: st) f) : A c pc lv (.int x :: st) f := fun p l e s m args below meth cc H locs ls D al ac hX hS hP hV hl => lv_i2l hX.1 hX.2.1 hd rfl (k p l e s m args below meth cc H locs ls D al ac hX hS hP hV hl)
theorem A_i2c {c : CT} {pc : Nat} {lv : List (Nat × Value)} {st : List Value} {f : Mem} {x : Int32} (hd : decode (gt_c c.1) pc = .ok (.i2c, 1)) (k : A c (pc + 1) lv (.int (x.toUInt32 % 65536).toInt32 :: st) f) : A c pc lv (.int x :: st) f := fun p l e s m args below meth cc H locs ls D al ac hX hS hP hV hl => lv_i2c hX.1 hX.2.1 hd rfl (k p l e s m args below meth cc H locs ls D al ac hX hS hP hV hl)
theorem A_dup {c : CT} {pc : Nat} {lv : List (Nat × Value)} {st : List Value} {f : Mem} {v : Value} (hd : decode (gt_c c.1) pc = .ok (.dup, 1)) (hv : v.category = 1) (k : A c (pc + 1) lv (v :: v :: st) f) : A c pc lv (v :: st) f := fun p l e s m args below meth cc H locs ls D al ac hX hS hP hV hl => lv_dup hX.1 hX.2.1 hd (by rw [cz_cat]; exact hv) (k p l e s m args below meth cc H locs ls D al ac hX hS hP hV hl)
theorem A_pop {c : CT} {pc : Nat} {lv : List (Nat × Value)} {st : List Value} {f : Mem} {v : Value} (hd : decode (gt_c c.1) pc = .ok (.pop, 1)) (hv : v.category = 1) (k : A c (pc + 1) lv (st) f) : A c pc lv (v :: st) f := fun p l e s m args below meth cc H locs ls D al ac hX hS hP hV hl => lv_pop hX.1 hX.2.1 hd (by rw [cz_cat]; exact hv) (k p l e s m args below meth cc H locs ls D al ac hX hS hP hV hl)
theorem A_dup2 {c : CT} {pc : Nat} {lv : List (Nat × Value)} {st : List Value} {f : Mem} {v w : Value} (hd : decode (gt_c c.1) pc = .ok (.dup2, 1)) (hv : v.category = 1) (hw : w.category = 1) (k : A c (pc + 1) lv (v :: w :: v :: w :: st) f) : A c pc lv (v :: w :: st) f := fun p l e s m args below meth cc H locs ls D al ac hX hS hP hV hl => lv_dup2_11 hX.1 hX.2.1 hd (by rw [cz_cat]; exact hv) (by rw [cz_cat]; exact hw) (k p l e s m args below meth cc H locs ls D al ac hX hS hP hV hl)
theorem gt_lv_at {al : Nat → Nat} {lv : List (Nat × Value)} {j i : Nat} {v : Value} (h : lv[j]? = some (i, v)) : (gt_lv al lv)[j]? = some (i, cz al v) := by unfold gt_lv; rw [List.getElem?_map, h]; rfl
theorem A_iload_n {c : CT} {pc : Nat} {lv : List (Nat × Value)} {st : List Value} {f : Mem} {n : Fin 4} {i : Nat} {x : Int32} (hd : decode (gt_c c.1) pc = .ok (.iload_n n, 1)) (hi : (n : Nat) = i) (j : Nat) (hj : lv[j]? = some (i, .int x)) (k : A c (pc + 1) lv (.int x :: st) f) : A c pc lv st f := fun p l e s m args below meth cc H locs ls D al ac hX hS hP hV hl => lv_iload_n hX.1 hX.2.1 hd hi (lv_at hl j (gt_lv_at hj)) (k p l e s m args below meth cc H locs ls D al ac hX hS hP hV hl)
theorem A_iload {c : CT} {pc : Nat} {lv : List (Nat × Value)} {st : List Value} {f : Mem} {i : Nat} {x : Int32} (hd : decode (gt_c c.1) pc = .ok (.iload i, 2)) (j : Nat) (hj : lv[j]? = some (i, .int x)) (k : A c (pc + 2) lv (.int x :: st) f) : A c pc lv st f := fun p l e s m args below meth cc H locs ls D al ac hX hS hP hV hl => lv_iload hX.1 hX.2.1 hd (lv_at hl j (gt_lv_at hj)) (k p l e s m args below meth cc H locs ls D al ac hX hS hP hV hl)
theorem A_lload_n {c : CT} {pc : Nat} {lv : List (Nat × Value)} {st : List Value} {f : Mem} {n : Fin 4} {i : Nat} {x : Int64} (hd : decode (gt_c c.1) pc = .ok (.lload_n n, 1)) (hi : (n : Nat) = i) (j : Nat) (hj : lv[j]? = some (i, .long x)) (k : A c (pc + 1) lv (.long x :: st) f) : A c pc lv st f := fun p l e s m args below meth cc H locs ls D al ac hX hS hP hV hl => lv_lload_n hX.1 hX.2.1 hd hi (lv_at hl j (gt_lv_at hj)) (k p l e s m args below meth cc H locs ls D al ac hX hS hP hV hl)
theorem A_lload {c : CT} {pc : Nat} {lv : List (Nat × Value)} {st : List Value} {f : Mem} {i : Nat} {x : Int64} (hd : decode (gt_c c.1) pc = .ok (.lload i, 2)) (j : Nat) (hj : lv[j]? = some (i, .long x)) (k : A c (pc + 2) lv (.long x :: st) f) : A c pc lv st f := fun p l e s m args below meth cc H locs ls D al ac hX hS hP hV hl => lv_lload hX.1 hX.2.1 hd (lv_at hl j (gt_lv_at hj)) (k p l e s m args below meth cc H locs ls D al ac hX hS hP hV hl)
theorem A_aload_n {c : CT} {pc : Nat} {lv : List (Nat × Value)} {st : List Value} {f : Mem} {n : Fin 4} {i : Nat} {x : Nat} (hd : decode (gt_c c.1) pc = .ok (.aload_n n, 1)) (hi : (n : Nat) = i) (j : Nat) (hj : lv[j]? = some (i, .ref x)) (k : A c (pc + 1) lv (.ref x :: st) f) : A c pc lv st f := fun p l e s m args below meth cc H locs ls D al ac hX hS hP hV hl => lv_aload_n hX.1 hX.2.1 hd hi (lv_at hl j (gt_lv_at hj)) (k p l e s m args below meth cc H locs ls D al ac hX hS hP hV hl)
theorem A_aload {c : CT} {pc : Nat} {lv : List (Nat × Value)} {st : List Value} {f : Mem} {i : Nat} {x : Nat} (hd : decode (gt_c c.1) pc = .ok (.aload i, 2)) (j : Nat) (hj : lv[j]? = some (i, .ref x)) (k : A c (pc + 2) lv (.ref x :: st) f) : A c pc lv st f := fun p l e s m args below meth cc H locs ls D al ac hX hS hP hV hl => lv_aload hX.1 hX.2.1 hd (lv_at hl j (gt_lv_at hj)) (k p l e s m args below meth cc H locs ls D al ac hX hS hP hV hl)
theorem A_aload_nN {c : CT} {pc : Nat} {lv : List (Nat × Value)} {st : List Value} {f : Mem} {n : Fin 4} {i : Nat} (hd : decode (gt_c c.1) pc = .ok (.aload_n n, 1)) (hi : (n : Nat) = i) (j : Nat) (hj : lv[j]? = some (i, .null)) (k : A c (pc + 1) lv (.null :: st) f) : A c pc lv st f := fun p l e s m args below meth cc H locs ls D al ac hX hS hP hV hl => lv_aload_nN hX.1 hX.2.1 hd hi (lv_at hl j (gt_lv_at hj)) (k p l e s m args below meth cc H locs ls D al ac hX hS hP hV hl)
/-- a local's value set -/
def gt_ls (i : Nat) (v : Value) (lv : List (Nat × Value)) : List (Nat × Value) := (i, v) :: lv.filter (fun q => !(q.1 == i) && !(q.1 + 1 == i && q.2.category == 2))
theorem gt_lv_ls (al : Nat → Nat) (i : Nat) (v : Value) (lv : List (Nat × Value)) : (i, cz al v) :: (gt_lv al lv).filter (fun q => !(q.1 == i) && !(q.1 + 1 == i && q.2.category == 2)) = gt_lv al (gt_ls i v lv) := by
  unfold gt_ls gt_lv
  rw [List.map_cons, List.filter_map]
  congr 2
  refine List.filter_congr fun q _ => ?_
  simp only [Function.comp]
  rw [cz_cat]
theorem A_istore_n {c : CT} {pc : Nat} {lv : List (Nat × Value)} {st : List Value} {f : Mem} {n : Fin 4} {i : Nat} {x : Int32} {lv' : List (Nat × Value)} (hd : decode (gt_c c.1) pc = .ok (.istore_n n, 1)) (hi : (n : Nat) = i) (hn : i < gt_L c.1) (hlv : gt_ls i (.int x) lv = lv') (k : A c (pc + 1) lv' st f) : A c pc lv (.int x :: st) f := fun p l e s m args below meth cc H locs ls D al ac hX hS hP hV hl => lv_istore_n hX.1 hX.2.1 hd hi hl hn ((gt_lv_ls al i (.int x) lv).trans (by rw [hlv])) (fun ls' hl' => k p l e s m args below meth cc H locs ls' D al ac hX hS hP hV hl')
theorem A_istore {c : CT} {pc : Nat} {lv : List (Nat × Value)} {st : List Value} {f : Mem} {i : Nat} {x : Int32} {lv' : List (Nat × Value)} (hd : decode (gt_c c.1) pc = .ok (.istore i, 2)) (hn : i < gt_L c.1) (hlv : gt_ls i (.int x) lv = lv') (k : A c (pc + 2) lv' st f) : A c pc lv (.int x :: st) f := fun p l e s m args below meth cc H locs ls D al ac hX hS hP hV hl => lv_istore hX.1 hX.2.1 hd hl hn ((gt_lv_ls al i (.int x) lv).trans (by rw [hlv])) (fun ls' hl' => k p l e s m args below meth cc H locs ls' D al ac hX hS hP hV hl')
theorem A_astore_n {c : CT} {pc : Nat} {lv : List (Nat × Value)} {st : List Value} {f : Mem} {n : Fin 4} {i : Nat} {x : Nat} {lv' : List (Nat × Value)} (hd : decode (gt_c c.1) pc = .ok (.astore_n n, 1)) (hi : (n : Nat) = i) (hn : i < gt_L c.1) (hlv : gt_ls i (.ref x) lv = lv') (k : A c (pc + 1) lv' st f) : A c pc lv (.ref x :: st) f := fun p l e s m args below meth cc H locs ls D al ac hX hS hP hV hl => lv_astore_n hX.1 hX.2.1 hd hi hl hn ((gt_lv_ls al i (.ref x) lv).trans (by rw [hlv])) (fun ls' hl' => k p l e s m args below meth cc H locs ls' D al ac hX hS hP hV hl')
theorem A_astore {c : CT} {pc : Nat} {lv : List (Nat × Value)} {st : List Value} {f : Mem} {i : Nat} {x : Nat} {lv' : List (Nat × Value)} (hd : decode (gt_c c.1) pc = .ok (.astore i, 2)) (hn : i < gt_L c.1) (hlv : gt_ls i (.ref x) lv = lv') (k : A c (pc + 2) lv' st f) : A c pc lv (.ref x :: st) f := fun p l e s m args below meth cc H locs ls D al ac hX hS hP hV hl => lv_astore hX.1 hX.2.1 hd hl hn ((gt_lv_ls al i (.ref x) lv).trans (by rw [hlv])) (fun ls' hl' => k p l e s m args below meth cc H locs ls' D al ac hX hS hP hV hl')
theorem A_iinc {c : CT} {pc : Nat} {lv : List (Nat × Value)} {st : List Value} {f : Mem} {i : Nat} {n : Int} {x v : Int32} {lv' : List (Nat × Value)} (hd : decode (gt_c c.1) pc = .ok (.iinc i n, 3)) (j : Nat) (hj : lv[j]? = some (i, .int x)) (hv : x + Int32.ofInt n = v) (hn : i < gt_L c.1) (hlv : gt_ls i (.int v) lv = lv') (k : A c (pc + 3) lv' st f) : A c pc lv st f := fun p l e s m args below meth cc H locs ls D al ac hX hS hP hV hl => lv_iinc (k := j) (v := v) hX.1 hX.2.1 hd hl (gt_lv_at hj) hv hn ((gt_lv_ls al i (.int v) lv).trans (by rw [hlv])) (fun ls' hl' => k p l e s m args below meth cc H locs ls' D al ac hX hS hP hV hl')
theorem A_if_eq {c : CT} {pc : Nat} {lv : List (Nat × Value)} {st : List Value} {f : Mem} {x : Int32} {off : Int} {tgt : Nat} (hd : decode (gt_c c.1) pc = .ok (.ifCond .eq off, 3)) (ht : (pc : Int) + off = (tgt : Int)) (kt : x = 0 → A c tgt lv st f) (kf : ¬ x = 0 → A c (pc + 3) lv st f) : A c pc lv (.int x :: st) f := fun p l e s m args below meth cc H locs ls D al ac hX hS hP hV hl => lv_if_eq hX.1 hX.2.1 hd ht (fun h => kt h p l e s m args below meth cc H locs ls D al ac hX hS hP hV hl) (fun h => kf h p l e s m args below meth cc H locs ls D al ac hX hS hP hV hl)
theorem A_icmp_eq {c : CT} {pc : Nat} {lv : List (Nat × Value)} {st : List Value} {f : Mem} {x y : Int32} {off : Int} {tgt : Nat} (hd : decode (gt_c c.1) pc = .ok (.if_icmp .eq off, 3)) (ht : (pc : Int) + off = (tgt : Int)) (kt : x = y → A c tgt lv st f) (kf : ¬ x = y → A c (pc + 3) lv st f) : A c pc lv (.int y :: .int x :: st) f := fun p l e s m args below meth cc H locs ls D al ac hX hS hP hV hl => lv_icmp_eq hX.1 hX.2.1 hd ht (fun h => kt h p l e s m args below meth cc H locs ls D al ac hX hS hP hV hl) (fun h => kf h p l e s m args below meth cc H locs ls D al ac hX hS hP hV hl)
theorem A_if_ne {c : CT} {pc : Nat} {lv : List (Nat × Value)} {st : List Value} {f : Mem} {x : Int32} {off : Int} {tgt : Nat} (hd : decode (gt_c c.1) pc = .ok (.ifCond .ne off, 3)) (ht : (pc : Int) + off = (tgt : Int)) (kt : ¬ x = 0 → A c tgt lv st f) (kf : x = 0 → A c (pc + 3) lv st f) : A c pc lv (.int x :: st) f := fun p l e s m args below meth cc H locs ls D al ac hX hS hP hV hl => lv_if_ne hX.1 hX.2.1 hd ht (fun h => kt h p l e s m args below meth cc H locs ls D al ac hX hS hP hV hl) (fun h => kf h p l e s m args below meth cc H locs ls D al ac hX hS hP hV hl)
theorem A_icmp_ne {c : CT} {pc : Nat} {lv : List (Nat × Value)} {st : List Value} {f : Mem} {x y : Int32} {off : Int} {tgt : Nat} (hd : decode (gt_c c.1) pc = .ok (.if_icmp .ne off, 3)) (ht : (pc : Int) + off = (tgt : Int)) (kt : ¬ x = y → A c tgt lv st f) (kf : x = y → A c (pc + 3) lv st f) : A c pc lv (.int y :: .int x :: st) f := fun p l e s m args below meth cc H locs ls D al ac hX hS hP hV hl => lv_icmp_ne hX.1 hX.2.1 hd ht (fun h => kt h p l e s m args below meth cc H locs ls D al ac hX hS hP hV hl) (fun h => kf h p l e s m args below meth cc H locs ls D al ac hX hS hP hV hl)
theorem A_if_lt {c : CT} {pc : Nat} {lv : List (Nat × Value)} {st : List Value} {f : Mem} {x : Int32} {off : Int} {tgt : Nat} (hd : decode (gt_c c.1) pc = .ok (.ifCond .lt off, 3)) (ht : (pc : Int) + off = (tgt : Int)) (kt : x < 0 → A c tgt lv st f) (kf : ¬ x < 0 → A c (pc + 3) lv st f) : A c pc lv (.int x :: st) f := fun p l e s m args below meth cc H locs ls D al ac hX hS hP hV hl => lv_if_lt hX.1 hX.2.1 hd ht (fun h => kt h p l e s m args below meth cc H locs ls D al ac hX hS hP hV hl) (fun h => kf h p l e s m args below meth cc H locs ls D al ac hX hS hP hV hl)
theorem A_icmp_lt {c : CT} {pc : Nat} {lv : List (Nat × Value)} {st : List Value} {f : Mem} {x y : Int32} {off : Int} {tgt : Nat} (hd : decode (gt_c c.1) pc = .ok (.if_icmp .lt off, 3)) (ht : (pc : Int) + off = (tgt : Int)) (kt : x < y → A c tgt lv st f) (kf : ¬ x < y → A c (pc + 3) lv st f) : A c pc lv (.int y :: .int x :: st) f := fun p l e s m args below meth cc H locs ls D al ac hX hS hP hV hl => lv_icmp_lt hX.1 hX.2.1 hd ht (fun h => kt h p l e s m args below meth cc H locs ls D al ac hX hS hP hV hl) (fun h => kf h p l e s m args below meth cc H locs ls D al ac hX hS hP hV hl)
theorem A_if_ge {c : CT} {pc : Nat} {lv : List (Nat × Value)} {st : List Value} {f : Mem} {x : Int32} {off : Int} {tgt : Nat} (hd : decode (gt_c c.1) pc = .ok (.ifCond .ge off, 3)) (ht : (pc : Int) + off = (tgt : Int)) (kt : 0 ≤ x → A c tgt lv st f) (kf : ¬ 0 ≤ x → A c (pc + 3) lv st f) : A c pc lv (.int x :: st) f := fun p l e s m args below meth cc H locs ls D al ac hX hS hP hV hl => lv_if_ge hX.1 hX.2.1 hd ht (fun h => kt h p l e s m args below meth cc H locs ls D al ac hX hS hP hV hl) (fun h => kf h p l e s m args below meth cc H locs ls D al ac hX hS hP hV hl)
theorem A_icmp_ge {c : CT} {pc : Nat} {lv : List (Nat × Value)} {st : List Value} {f : Mem} {x y : Int32} {off : Int} {tgt : Nat} (hd : decode (gt_c c.1) pc = .ok (.if_icmp .ge off, 3)) (ht : (pc : Int) + off = (tgt : Int)) (kt : y ≤ x → A c tgt lv st f) (kf : ¬ y ≤ x → A c (pc + 3) lv st f) : A c pc lv (.int y :: .int x :: st) f := fun p l e s m args below meth cc H locs ls D al ac hX hS hP hV hl => lv_icmp_ge hX.1 hX.2.1 hd ht (fun h => kt h p l e s m args below meth cc H locs ls D al ac hX hS hP hV hl) (fun h => kf h p l e s m args below meth cc H locs ls D al ac hX hS hP hV hl)
theorem A_if_gt {c : CT} {pc : Nat} {lv : List (Nat × Value)} {st : List Value} {f : Mem} {x : Int32} {off : Int} {tgt : Nat} (hd : decode (gt_c c.1) pc = .ok (.ifCond .gt off, 3)) (ht : (pc : Int) + off = (tgt : Int)) (kt : 0 < x → A c tgt lv st f) (kf : ¬ 0 < x → A c (pc + 3) lv st f) : A c pc lv (.int x :: st) f := fun p l e s m args below meth cc H locs ls D al ac hX hS hP hV hl => lv_if_gt hX.1 hX.2.1 hd ht (fun h => kt h p l e s m args below meth cc H locs ls D al ac hX hS hP hV hl) (fun h => kf h p l e s m args below meth cc H locs ls D al ac hX hS hP hV hl)
theorem A_icmp_gt {c : CT} {pc : Nat} {lv : List (Nat × Value)} {st : List Value} {f : Mem} {x y : Int32} {off : Int} {tgt : Nat} (hd : decode (gt_c c.1) pc = .ok (.if_icmp .gt off, 3)) (ht : (pc : Int) + off = (tgt : Int)) (kt : y < x → A c tgt lv st f) (kf : ¬ y < x → A c (pc + 3) lv st f) : A c pc lv (.int y :: .int x :: st) f := fun p l e s m args below meth cc H locs ls D al ac hX hS hP hV hl => lv_icmp_gt hX.1 hX.2.1 hd ht (fun h => kt h p l e s m args below meth cc H locs ls D al ac hX hS hP hV hl) (fun h => kf h p l e s m args below meth cc H locs ls D al ac hX hS hP hV hl)
theorem A_if_le {c : CT} {pc : Nat} {lv : List (Nat × Value)} {st : List Value} {f : Mem} {x : Int32} {off : Int} {tgt : Nat} (hd : decode (gt_c c.1) pc = .ok (.ifCond .le off, 3)) (ht : (pc : Int) + off = (tgt : Int)) (kt : x ≤ 0 → A c tgt lv st f) (kf : ¬ x ≤ 0 → A c (pc + 3) lv st f) : A c pc lv (.int x :: st) f := fun p l e s m args below meth cc H locs ls D al ac hX hS hP hV hl => lv_if_le hX.1 hX.2.1 hd ht (fun h => kt h p l e s m args below meth cc H locs ls D al ac hX hS hP hV hl) (fun h => kf h p l e s m args below meth cc H locs ls D al ac hX hS hP hV hl)
theorem A_icmp_le {c : CT} {pc : Nat} {lv : List (Nat × Value)} {st : List Value} {f : Mem} {x y : Int32} {off : Int} {tgt : Nat} (hd : decode (gt_c c.1) pc = .ok (.if_icmp .le off, 3)) (ht : (pc : Int) + off = (tgt : Int)) (kt : x ≤ y → A c tgt lv st f) (kf : ¬ x ≤ y → A c (pc + 3) lv st f) : A c pc lv (.int y :: .int x :: st) f := fun p l e s m args below meth cc H locs ls D al ac hX hS hP hV hl => lv_icmp_le hX.1 hX.2.1 hd ht (fun h => kt h p l e s m args below meth cc H locs ls D al ac hX hS hP hV hl) (fun h => kf h p l e s m args below meth cc H locs ls D al ac hX hS hP hV hl)
theorem A_goto {c : CT} {pc : Nat} {lv : List (Nat × Value)} {st : List Value} {f : Mem} {off : Int} {tgt : Nat} (hd : decode (gt_c c.1) pc = .ok (.goto off, 3)) (ht : (pc : Int) + off = (tgt : Int)) (k : A c tgt lv st f) : A c pc lv st f := fun p l e s m args below meth cc H locs ls D al ac hX hS hP hV hl => lv_goto hX.1 hX.2.1 hd ht (k p l e s m args below meth cc H locs ls D al ac hX hS hP hV hl)
theorem A_tabOut {c : CT} {pc : Nat} {lv : List (Nat × Value)} {st : List Value} {f : Mem} {dflt lo hi : Int} {offs : Array Int} {len : Nat} {x : Int32} {tgt : Nat} (hd : decode (gt_c c.1) pc = .ok (.tableswitch dflt lo hi offs, len)) (h : x.toInt < lo ∨ hi < x.toInt) (ht : (pc : Int) + dflt = (tgt : Int)) (k : A c tgt lv st f) : A c pc lv (.int x :: st) f := fun p l e s m args below meth cc H locs ls D al ac hX hS hP hV hl => lv_tableOut hX.1 hX.2.1 hd h ht (k p l e s m args below meth cc H locs ls D al ac hX hS hP hV hl)
theorem A_tabIn {c : CT} {pc : Nat} {lv : List (Nat × Value)} {st : List Value} {f : Mem} {dflt lo hi : Int} {offs : Array Int} {len : Nat} {x : Int32} {off : Int} {tgt : Nat} (hd : decode (gt_c c.1) pc = .ok (.tableswitch dflt lo hi offs, len)) (h1 : ¬ x.toInt < lo) (h2 : ¬ hi < x.toInt) (ho : offs[(x.toInt - lo).toNat]? = some off) (ht : (pc : Int) + off = (tgt : Int)) (k : A c tgt lv st f) : A c pc lv (.int x :: st) f := fun p l e s m args below meth cc H locs ls D al ac hX hS hP hV hl => lv_tableIn hX.1 hX.2.1 hd h1 h2 ho ht (k p l e s m args below meth cc H locs ls D al ac hX hS hP hV hl)
theorem A_ldc {c : CT} {pc : Nat} {lv : List (Nat × Value)} {st : List Value} {f : Mem} {i : Nat} {v : Int32} (hd : decode (gt_c c.1) pc = .ok (.ldc i, 2)) (hw : Cond.constant (gt_y c.1).cls i v ∈ gw) (k : A c (pc + 2) lv (.int v :: st) f) : A c pc lv st f := fun p l e s m args below meth cc H locs ls D al ac hX hS hP hV hl => lv_ldc hX.1 hX.2.1 hX.2.2.2.2.2.1 (hX.2.2.2.2.2.2.1 _ hw) hd (k p l e s m args below meth cc H locs ls D al ac hX hS hP hV hl)
theorem A_ldcw {c : CT} {pc : Nat} {lv : List (Nat × Value)} {st : List Value} {f : Mem} {i : Nat} {v : Int32} (hd : decode (gt_c c.1) pc = .ok (.ldc_w i, 3)) (hw : Cond.constant (gt_y c.1).cls i v ∈ gw) (k : A c (pc + 3) lv (.int v :: st) f) : A c pc lv st f := fun p l e s m args below meth cc H locs ls D al ac hX hS hP hV hl => lv_ldcw hX.1 hX.2.1 hX.2.2.2.2.2.1 (hX.2.2.2.2.2.2.1 _ hw) hd (k p l e s m args below meth cc H locs ls D al ac hX hS hP hV hl)
theorem A_ldc2 {c : CT} {pc : Nat} {lv : List (Nat × Value)} {st : List Value} {f : Mem} {i : Nat} {v : Int64} (hd : decode (gt_c c.1) pc = .ok (.ldc2_w i, 3)) (hw : Cond.constantLong (gt_y c.1).cls i v ∈ gw) (k : A c (pc + 3) lv (.long v :: st) f) : A c pc lv st f := fun p l e s m args below meth cc H locs ls D al ac hX hS hP hV hl => lv_ldc2 hX.1 hX.2.1 hX.2.2.2.2.2.1 (hX.2.2.2.2.2.2.1 _ hw) hd (k p l e s m args below meth cc H locs ls D al ac hX hS hP hV hl)
theorem A_ldcS {c : CT} {pc : Nat} {lv : List (Nat × Value)} {st : List Value} {f : Mem} {i : Nat} (j : Nat) (hd : decode (gt_c c.1) pc = .ok (.ldc i, 2)) (hR : (gt_y c.1).cls = RX4) (hj : j < 9) (hi : i = 76 + 2 * j) (k : A c (pc + 2) lv (.ref (1000 + j) :: st) f) : A c pc lv st f := fun p l e s m args below meth cc H locs ls D al ac hX hS hP hV hl => by
  subst hi
  exact va_ldcS hX.1 hX.2.1 hX.2.2.2.2.2.1 (hR ▸ hS.2.2.1.2.2.1 j hj) hd (k p l e s m args below meth cc H locs ls D al ac hX hS hP hV hl)
theorem A_topi {c : CT} {pc : Nat} {lv : List (Nat × Value)} {st : List Value} {f : Mem} {x : Int32} (y : Int32) (h : x = y) (k : A c pc lv (.int y :: st) f) : A c pc lv (.int x :: st) f := by rw [h]; exact k
theorem A_eq {c : CT} {pc : Nat} {lv : List (Nat × Value)} {st : List Value} {f : Mem} {lv' : List (Nat × Value)} {st' : List Value} {f' : Mem} (h1 : lv = lv') (h2 : st = st') (h3 : f = f') (k : A c pc lv' st' f') : A c pc lv st f := by rw [h1, h2, h3]; exact k
theorem A_sub {c : CT} {pc : Nat} {lv : List (Nat × Value)} {st : List Value} {f : Mem} {lv' : List (Nat × Value)} (ks : List Nat) (h : lv_pick lv ks = lv') (k : A c pc lv' st f) : A c pc lv st f := fun p l e s m args below meth cc H locs ls D al ac hX hS hP hV hl => k p l e s m args below meth cc H locs ls D al ac hX hS hP hV (lv_sub hl ks (by
  subst h
  unfold lv_pick gt_lv
  rw [List.map_filterMap]
  congr 1
  funext j
  rw [List.getElem?_map]))
end
section
/-! fields -/
def FO (own : String) (idx ci k : Nat) (fin : Bool) (tk : FieldType) : Prop := ∃ (C : String) (T : u_T) (N : Nat) (ty : Nat → FieldType), vwCl[ci]? = some (C, T, N) ∧ k < N ∧ (∀ w ∈ u_ws C T N, w ∈ gw) ∧ Cond.fieldLink own idx (T k).1 (T k).2.1 (T k).2.2.1 ∈ gw ∧ (∀ k, k < N → parseFieldDescriptor (T k).2.2.1 = some (ty k)) ∧ (∀ a, a < N → ∀ b, b < N → a ≠ b → (T a).2.1 ≠ (T b).2.1) ∧ (T k).2.2.2 = fin ∧ ty k = tk ∧ (T k).1 = C
theorem gt_we_o (al : Nat → Nat) (ac : Nat → ClassId) (g : Nat → Int32) (ci n : Nat) (fl : List Nat) : gt_we al ac g (ci + 4, n, fl) = .inr (ci, gt_fl al g 0 fl) := rfl
theorem gt_fl_at0 {al : Nat → Nat} {g : Nat → Int32} {fl : List Nat} {k o : Nat} (h : fl[k]? = some o) : (gt_fl al g 0 fl)[k]? = some (gt_fv al g k o) := by rw [gt_fl_at, h, Nat.zero_add]; rfl
theorem A_get {c : CT} {pc : Nat} {lv : List (Nat × Value)} {st : List Value} {f : Mem} {a idx ci k n o : Nat} {fl : List Nat} {fin : Bool} {tk : FieldType} {v : Value} (hd : decode (gt_c c.1) pc = .ok (.getfield idx, 3)) (hF : FO (gt_y c.1).cls idx ci k fin tk) (hL : c.2.2.2.2.2.2[a]? = some (ci + 4, n, fl)) (hk : fl[k]? = some o) (hv : ∀ al, gt_fv al (f a) k o = cz al v) (kk : A c (pc + 3) lv (v :: st) f) : A c pc lv (.ref a :: st) f := by
  intro p l e s m args below meth cc H locs ls D al ac hX hS hP hV hl
  obtain ⟨C, T, N, ty, h1, h2, h3, h4, h5, h6, h7, h8, h9⟩ := hF
  exact va_get (tys := gt_tys ac) hX.1 hX.2.1 hX.2.2.2.2.2.2.1 h3 hX.2.2.2.2.2.1 hS.2.2.1.1 hP a (gt_wd_at hL) h1 k h2 (hX.2.2.2.2.2.2.1 _ h4) (fun x hx => hx) ((gt_fl_at0 hk).trans (by rw [hv al])) hd (kk p l e s m args below meth cc H locs ls D al ac hX hS hP hV hl)
theorem A_getI {c : CT} {pc : Nat} {lv : List (Nat × Value)} {st : List Value} {f : Mem} {a idx ci k n : Nat} {fl : List Nat} {fin : Bool} {tk : FieldType} (hd : decode (gt_c c.1) pc = .ok (.getfield idx, 3)) (hF : FO (gt_y c.1).cls idx ci k fin tk) (hL : c.2.2.2.2.2.2[a]? = some (ci + 4, n, fl)) (hk : fl[k]? = some 0) (kk : A c (pc + 3) lv (.int (f a k) :: st) f) : A c pc lv (.ref a :: st) f := A_get hd hF hL hk (fun _ => rfl) kk
theorem A_getR {c : CT} {pc : Nat} {lv : List (Nat × Value)} {st : List Value} {f : Mem} {a b idx ci k n : Nat} {fl : List Nat} {fin : Bool} {tk : FieldType} (hd : decode (gt_c c.1) pc = .ok (.getfield idx, 3)) (hF : FO (gt_y c.1).cls idx ci k fin tk) (hL : c.2.2.2.2.2.2[a]? = some (ci + 4, n, fl)) (hk : fl[k]? = some (b + 2)) (kk : A c (pc + 3) lv (.ref b :: st) f) : A c pc lv (.ref a :: st) f := A_get hd hF hL hk (fun _ => rfl) kk
theorem A_put {c : CT} {pc : Nat} {lv : List (Nat × Value)} {st : List Value} {f : Mem} {a idx ci k n : Nat} {fl : List Nat} {tk : FieldType} {x : Int32} (hd : decode (gt_c c.1) pc = .ok (.putfield idx, 3)) (hF : FO (gt_y c.1).cls idx ci k false tk) (hL : c.2.2.2.2.2.2[a]? = some (ci + 4, n, fl)) (hk : fl[k]? = some 0) (hn : narrow tk (.int x) = .int x) (hf : fits tk (.int x) = true) (kk : A c (pc + 3) lv st (u2 f a k x)) : A c pc lv (.int x :: .ref a :: st) f := by
  intro p l e s m args below meth cc H locs ls D al ac hX hS hP hV hl
  obtain ⟨C, T, N, ty, h1, h2, h3, h4, h5, h6, h7, h8, h9⟩ := hF
  have hlt : k < (gt_fl al (f a) 0 fl).length := by rw [gt_fl_len]; exact (List.getElem?_eq_some_iff.mp hk).1
  refine va_put (tys := gt_tys ac) (A := gt_A al) (H0 := s.heap) (v := .int x) hX.1 hX.2.1 hX.2.2.2.2.2.2.1 h3 ty h5 h6 hX.2.2.2.2.2.1 hS.2.2.1.1 hP (gt_D hS.1 ac hS.2.1 f) hV a (gt_wd_at hL) h1 k h2 (hX.2.2.2.2.2.2.1 _ h4) (fun x hx => hx) h7 ((h5 k h2).trans (by rw [h8])) hn hf hlt hd fun H1 locs1 hP1 _ hV1 => ?_
  rw [gt_fl_set al (f a) x fl 0 k hk, Nat.zero_add, ← gt_we_o al ac _ ci n fl, gt_wd_set hL] at hP1
  exact kk p l e s m args below meth cc H1 locs1 ls D al ac hX hS hP1 hV1 hl
theorem A_putI {c : CT} {pc : Nat} {lv : List (Nat × Value)} {st : List Value} {f : Mem} {a idx ci k n : Nat} {fl : List Nat} {x : Int32} (hd : decode (gt_c c.1) pc = .ok (.putfield idx, 3)) (hF : FO (gt_y c.1).cls idx ci k false .int) (hL : c.2.2.2.2.2.2[a]? = some (ci + 4, n, fl)) (hk : fl[k]? = some 0) (kk : A c (pc + 3) lv st (u2 f a k x)) : A c pc lv (.int x :: .ref a :: st) f := A_put hd hF hL hk rfl rfl kk
theorem gt_nz {x : Int32} (h : x = 0 ∨ x = 1) : narrow .boolean (.int x) = .int x ∧ fits .boolean (.int x) = true ∧ vp_nar .boolean x = x := by
  rcases h with rfl | rfl <;> decide
theorem A_putZ {c : CT} {pc : Nat} {lv : List (Nat × Value)} {st : List Value} {f : Mem} {a idx ci k n : Nat} {fl : List Nat} {x : Int32} (hd : decode (gt_c c.1) pc = .ok (.putfield idx, 3)) (hF : FO (gt_y c.1).cls idx ci k false .boolean) (hL : c.2.2.2.2.2.2[a]? = some (ci + 4, n, fl)) (hk : fl[k]? = some 0) (hx : x = 0 ∨ x = 1) (kk : A c (pc + 3) lv st (u2 f a k x)) : A c pc lv (.int x :: .ref a :: st) f := A_put hd hF hL hk (gt_nz hx).1 (gt_nz hx).2.1 kk
/-! arrays -/
theorem A_iaload {c : CT} {pc : Nat} {lv : List (Nat × Value)} {st : List Value} {f : Mem} {a n : Nat} {rl : List Nat} {i : Int32} (j : Nat) (hd : decode (gt_c c.1) pc = .ok (.iaload, 1)) (hL : c.2.2.2.2.2.2[a]? = some (0, n, rl)) (hi : i = nI j) (hj : j < n) (hn : n < 2 ^ 31) (kk : A c (pc + 1) lv (.int (f a j) :: st) f) : A c pc lv (.int i :: .ref a :: st) f := by
  intro p l e s m args below meth cc H locs ls D al ac hX hS hP hV hl
  subst hi
  refine va_iald (tys := gt_tys ac) hX.1 hX.2.1 hS.2.2.1.1 hP a 0 (gt_wd_at hL) rfl (vp_in_nI hj hn) hd ?_
  rw [nI_clamp (by omega)]
  exact kk p l e s m args below meth cc H locs ls D al ac hX hS hP hV hl
theorem A_iastore {c : CT} {pc : Nat} {lv : List (Nat × Value)} {st : List Value} {f : Mem} {a n : Nat} {rl : List Nat} {i x : Int32} (j : Nat) (hd : decode (gt_c c.1) pc = .ok (.iastore, 1)) (hL : c.2.2.2.2.2.2[a]? = some (0, n, rl)) (hi : i = nI j) (hj : j < n) (hn : n < 2 ^ 31) (kk : A c (pc + 1) lv st (u2 f a j x)) : A c pc lv (.int x :: .int i :: .ref a :: st) f := by
  intro p l e s m args below meth cc H locs ls D al ac hX hS hP hV hl
  subst hi
  refine va_iast (tys := gt_tys ac) (A := gt_A al) (H0 := s.heap) hX.1 hX.2.1 hS.2.2.1.1 hP (gt_D hS.1 ac hS.2.1 f) hV a 0 (gt_wd_at hL) rfl (vp_in_nI hj hn) hd fun H1 locs1 hP1 _ hV1 => ?_
  rw [nI_clamp (by omega)] at hP1
  have e9 := gt_wd_set (al := al) (ac := ac) (f := f) hL (upd (f a) j x)
  exact kk p l e s m args below meth cc H1 locs1 ls D al ac hX hS (e9 ▸ hP1) hV1 hl
theorem A_zaload {c : CT} {pc : Nat} {lv : List (Nat × Value)} {st : List Value} {f : Mem} {a n : Nat} {rl : List Nat} {i : Int32} (j : Nat) (hd : decode (gt_c c.1) pc = .ok (.baload, 1)) (hL : c.2.2.2.2.2.2[a]? = some (1, n, rl)) (hi : i = nI j) (hj : j < n) (hn : n < 2 ^ 31) (kk : A c (pc + 1) lv (.int (f a j) :: st) f) : A c pc lv (.int i :: .ref a :: st) f := by
  intro p l e s m args below meth cc H locs ls D al ac hX hS hP hV hl
  subst hi
  refine va_zald (tys := gt_tys ac) hX.1 hX.2.1 hS.2.2.1.1 hP a 1 (gt_wd_at hL) rfl (vp_in_nI hj hn) hd ?_
  rw [nI_clamp (by omega)]
  exact kk p l e s m args below meth cc H locs ls D al ac hX hS hP hV hl
theorem A_zastore {c : CT} {pc : Nat} {lv : List (Nat × Value)} {st : List Value} {f : Mem} {a n : Nat} {rl : List Nat} {i x : Int32} (j : Nat) (hd : decode (gt_c c.1) pc = .ok (.bastore, 1)) (hL : c.2.2.2.2.2.2[a]? = some (1, n, rl)) (hi : i = nI j) (hj : j < n) (hn : n < 2 ^ 31) (hx : x = 0 ∨ x = 1) (kk : A c (pc + 1) lv st (u2 f a j x)) : A c pc lv (.int x :: .int i :: .ref a :: st) f := by
  intro p l e s m args below meth cc H locs ls D al ac hX hS hP hV hl
  subst hi
  refine va_zast (tys := gt_tys ac) (A := gt_A al) (H0 := s.heap) hX.1 hX.2.1 hS.2.2.1.1 hP (gt_D hS.1 ac hS.2.1 f) hV a 1 (gt_wd_at hL) rfl (vp_in_nI hj hn) hd fun H1 locs1 hP1 _ hV1 => ?_
  rw [nI_clamp (by omega), (gt_nz hx).2.2] at hP1
  have e9 := gt_wd_set (al := al) (ac := ac) (f := f) hL (upd (f a) j x)
  exact kk p l e s m args below meth cc H1 locs1 ls D al ac hX hS (e9 ▸ hP1) hV1 hl
theorem gt_ra_at {al : Nat → Nat} {rl : List Nat} {j b : Nat} (h : rl[j]? = some (b + 2)) : gt_ra al rl j = some (al b) := by
  unfold gt_ra
  rw [List.getD_eq_getElem?_getD, h]
  rfl
theorem A_aaload2 {c : CT} {pc : Nat} {lv : List (Nat × Value)} {st : List Value} {f : Mem} {a b n : Nat} {rl : List Nat} {i : Int32} (j : Nat) (hd : decode (gt_c c.1) pc = .ok (.aaload, 1)) (hL : c.2.2.2.2.2.2[a]? = some (2, n, rl)) (hi : i = nI j) (hj : j < n) (hn : n < 2 ^ 31) (hr : rl[j]? = some (b + 2)) (kk : A c (pc + 1) lv (.ref b :: st) f) : A c pc lv (.int i :: .ref a :: st) f := by
  intro p l e s m args below meth cc H locs ls D al ac hX hS hP hV hl
  subst hi
  refine va_aldq (tys := gt_tys ac) hX.1 hX.2.1 hS.2.2.1.1 hP a 2 (gt_wd_at hL) rfl (vp_in_nI hj hn) hd ?_
  rw [nI_clamp (by omega), gt_ra_at hr]
  exact kk p l e s m args below meth cc H locs ls D al ac hX hS hP hV hl
theorem A_aaload3 {c : CT} {pc : Nat} {lv : List (Nat × Value)} {st : List Value} {f : Mem} {a b n : Nat} {rl : List Nat} {i : Int32} (j : Nat) (hd : decode (gt_c c.1) pc = .ok (.aaload, 1)) (hL : c.2.2.2.2.2.2[a]? = some (3, n, rl)) (hi : i = nI j) (hj : j < n) (hn : n < 2 ^ 31) (hr : rl[j]? = some (b + 2)) (kk : A c (pc + 1) lv (.ref b :: st) f) : A c pc lv (.int i :: .ref a :: st) f := by
  intro p l e s m args below meth cc H locs ls D al ac hX hS hP hV hl
  subst hi
  have hin : vp_in (nI j) n := vp_in_nI hj hn
  have hlt : (nI j).toNatClampNeg < n := Nat.not_le.mp fun q => hin (Or.inr q)
  refine W.aald (v := va_rf (gt_ra al rl (nI j).toNatClampNeg)) (ty := .array .int) hX.1 hX.2.1 (hP a _ (gt_wd_at hL)) ((hS.2.2.1.1.2 3 _ rfl).1 n (fun j => va_rf (gt_ra al rl j))) rfl (fun q => by cases q) (by show ¬ (nI j < 0 ∨ (arrV _ _ _).slots.size ≤ _); rw [arrV_size]; exact hin) (by show (arrV _ _ _).slots[_]? = _; rw [arrV_read _ _ hlt]) rfl rfl hd ?_
  rw [nI_clamp (by omega), gt_ra_at hr]
  exact kk p l e s m args below meth cc H locs ls D al ac hX hS hP hV hl
theorem A_alen {c : CT} {pc : Nat} {lv : List (Nat × Value)} {st : List Value} {f : Mem} {a n : Nat} {rl : List Nat} (hd : decode (gt_c c.1) pc = .ok (.arraylength, 1)) (hL : c.2.2.2.2.2.2[a]? = some (0, n, rl)) (kk : A c (pc + 1) lv (.int (nI n) :: st) f) : A c pc lv (.ref a :: st) f := by
  intro p l e s m args below meth cc H locs ls D al ac hX hS hP hV hl
  exact va_alen (tys := gt_tys ac) hX.1 hX.2.1 hS.2.2.1.1 hP a 0 (gt_wd_at hL) rfl rfl hd (kk p l e s m args below meth cc H locs ls D al ac hX hS hP hV hl)
/-- System.arraycopy of ints: n of them from sp on to dp on -/
def gt_cpy (f : Mem) (a0 sp a dp n : Nat) : Mem := ur f a (va_cpy (f a0) (f a) sp dp n)
def gt_CW (own : String) (idx : Nat) : Prop := Cond.methodLink own idx arraycopyName ∈ gw ∧ Cond.native arraycopyName ∈ gw ∧ Cond.static arraycopyName ∈ gw ∧ Cond.initialized "java/lang/System" ∈ gw
theorem A_copy {c : CT} {pc : Nat} {lv : List (Nat × Value)} {st : List Value} {f : Mem} {a a0 idx n0 n1 : Nat} {r0 r1 : List Nat} {sp dp n : Int32} (isp idp inn : Nat) (hd : decode (gt_c c.1) pc = .ok (.invokestatic idx, 3)) (hw : gt_CW (gt_y c.1).cls idx) (hL0 : c.2.2.2.2.2.2[a0]? = some (0, n0, r0)) (hL : c.2.2.2.2.2.2[a]? = some (0, n1, r1)) (h1 : sp = nI isp) (h2 : dp = nI idp) (h3 : n = nI inn) (h4 : isp + inn ≤ n0) (h5 : idp + inn ≤ n1) (h6 : n0 < 2 ^ 31 ∧ n1 < 2 ^ 31) (hR : 1 ≤ c.2.1.frames ∧ (st.map fun v => v.category).sum + 18 ≤ c.2.1.locals)
    (kk : A c (pc + 3) lv st (gt_cpy f a0 isp a idp inn)) : A c pc lv (.int n :: .int dp :: .ref a :: .int sp :: .ref a0 :: st) f := by
  intro p l e s m args below meth cc H locs ls D al ac hX hS hP hV hl
  subst h1; subst h2; subst h3
  have hcat : ((st.map (cz al)).map fun v => v.category).sum = (st.map fun v => v.category).sum := by
    rw [List.map_map]
    congr 2
    funext v
    exact cz_cat al v
  refine va_copyi (tys := gt_tys ac) (A := gt_A al) (H0 := s.heap) hX.1 hX.2.1 (hX.2.2.1.trans hl.1.symm) hX.2.2.2.2.2.1 (hX.2.2.2.2.2.2.1 _ hw.1) (hX.2.2.2.2.2.2.1 _ hw.2.1) (hX.2.2.2.2.2.2.1 _ hw.2.2.1) (hX.2.2.2.2.2.2.1 _ hw.2.2.2) hS.2.2.1.1 hP (gt_D hS.1 ac hS.2.1 f) hV a0 a 0 0 (gt_wd_at hL0) (gt_wd_at hL) rfl rfl rfl (nI_pos (by omega)) (nI_pos (by omega)) (nI_pos (by omega)) (by rw [nI_clamp (by omega), nI_clamp (by omega)]; exact h4) (by rw [nI_clamp (by omega), nI_clamp (by omega)]; exact h5) (fun _ _ => rfl) hR.1 (by rw [hcat]; exact hR.2) hd fun H1 locs1 hP1 _ hV1 => ?_
  rw [nI_clamp (by omega), nI_clamp (by omega), nI_clamp (by omega)] at hP1
  have e9 := gt_wd_set (al := al) (ac := ac) (f := f) hL (va_cpy (f a0) (f a) isp idp inn)
  exact kk p l e s m args below meth cc H1 locs1 ls D al ac hX hS (e9 ▸ hP1) hV1 hl
def gt_MW (own : String) (idx : Nat) : Prop := Cond.methodLink own idx Lib.Math.min.name ∈ gw ∧ Cond.static Lib.Math.min.name ∈ gw ∧ Cond.initialized "java/lang/Math" ∈ gw ∧ Cond.code Lib.Math.min.name Lib.Math.min.code 2 (some .int) ∈ gw
theorem A_min {c : CT} {pc : Nat} {lv : List (Nat × Value)} {st : List Value} {f : Mem} {idx : Nat} {x y : Int32} (hd : decode (gt_c c.1) pc = .ok (.invokestatic idx, 3)) (hw : gt_MW (gt_y c.1).cls idx) (hR : 1 ≤ c.2.1.frames ∧ (st.map fun v => v.category).sum + 13 ≤ c.2.1.locals) (hc : c.2.2.1 ≤ c.2.1.cells ∧ c.2.2.2.1 ≤ c.2.1.slots) (kk : A c (pc + 3) lv (.int (if y < x then y else x) :: st) f) : A c pc lv (.int y :: .int x :: st) f := by
  intro p l e s m args below meth cc H locs ls D al ac hX hS hP hV hl
  have hcat : ((st.map (cz al)).map fun v => v.category).sum = (st.map fun v => v.category).sum := by
    rw [List.map_map]
    congr 2
    funext v
    exact cz_cat al v
  exact va_mmin hX.1 hX.2.1 (hX.2.2.1.trans hl.1.symm) hX.2.2.2.2.2.1 (hX.2.2.2.2.2.2.1 _ hw.1) (hX.2.2.2.2.2.2.1 _ hw.2.1) (hX.2.2.2.2.2.2.1 _ hw.2.2.1) (hX.2.2.2.2.2.2.1 _ hw.2.2.2) hR.1 (by rw [hcat]; exact hR.2) hc.1 hc.2 hd (kk p l e s m args below meth cc H locs ls D al ac hX hS hP hV hl)
/-! answers -/
theorem A_iret {M : MT} {R : Room} {nc ns : Nat} {X : XT} {lay : List Ly} {post : Option Value → Mem → Prop} {pc : Nat} {lv : List (Nat × Value)} {f : Mem} {x : Int32} (hd : decode (gt_c M) pc = .ok (.ireturn, 1)) (hr : gt_r M = some .int) (hp : post (some (.int x)) f) : A (M, R, nc, ns, X, gt_Z nc ns lay post, lay) pc lv [.int x] f := by
  intro p l e s m args below meth cc H locs ls D al ac hX hS hP hV hl
  exact W.iret hX.1 hX.2.1 (hX.2.2.2.1.trans hr) (fun t ht hW => ⟨⟨some (.int x), f, rfl, hp, by rw [ht]; exact hP⟩, hV.F ht⟩) hV.2.2 hd hX.2.2.2.2.1
theorem A_nret {M : MT} {R : Room} {nc ns : Nat} {X : XT} {lay : List Ly} {post : Option Value → Mem → Prop} {pc : Nat} {lv : List (Nat × Value)} {f : Mem} {x : Int32} {ty : FieldType} (hd : decode (gt_c M) pc = .ok (.ireturn, 1)) (hr : gt_r M = some ty) (hn : narrow ty (.int x) = .int x) (hp : post (some (.int x)) f) : A (M, R, nc, ns, X, gt_Z nc ns lay post, lay) pc lv [.int x] f := by
  intro p l e s m args below meth cc H locs ls D al ac hX hS hP hV hl
  exact W.zret hX.1 hX.2.1 (hX.2.2.2.1.trans hr) hn (fun t ht hW => ⟨⟨some (.int x), f, rfl, hp, by rw [ht]; exact hP⟩, hV.F ht⟩) hV.2.2 hd hX.2.2.2.2.1
theorem A_zret {M : MT} {R : Room} {nc ns : Nat} {X : XT} {lay : List Ly} {post : Option Value → Mem → Prop} {pc : Nat} {lv : List (Nat × Value)} {f : Mem} {x : Int32} (hd : decode (gt_c M) pc = .ok (.ireturn, 1)) (hr : gt_r M = some .boolean) (hx : x = 0 ∨ x = 1) (hp : post (some (.int x)) f) : A (M, R, nc, ns, X, gt_Z nc ns lay post, lay) pc lv [.int x] f := A_nret hd hr (gt_nz hx).1 hp
theorem A_vret {M : MT} {R : Room} {nc ns : Nat} {X : XT} {lay : List Ly} {post : Option Value → Mem → Prop} {pc : Nat} {lv : List (Nat × Value)} {f : Mem} (hd : decode (gt_c M) pc = .ok (.return_, 1)) (hr : gt_r M = none) (hp : post none f) : A (M, R, nc, ns, X, gt_Z nc ns lay post, lay) pc lv [] f := by
  intro p l e s m args below meth cc H locs ls D al ac hX hS hP hV hl
  exact W.vret hX.1 hX.2.1 (hX.2.2.2.1.trans hr) (fun t ht hW => ⟨⟨none, f, rfl, hp, by rw [ht]; exact hP⟩, hV.F ht⟩) hV.2.2 hd hX.2.2.2.2.1
theorem A_aret {M : MT} {R : Room} {nc ns : Nat} {X : XT} {lay : List Ly} {post : Option Value → Mem → Prop} {pc : Nat} {lv : List (Nat × Value)} {f : Mem} {a : Nat} {C : String} (hd : decode (gt_c M) pc = .ok (.areturn, 1)) (hr : gt_r M = some (.object C)) (hp : post (some (.ref a)) f) : A (M, R, nc, ns, X, gt_Z nc ns lay post, lay) pc lv [.ref a] f := by
  intro p l e s m args below meth cc H locs ls D al ac hX hS hP hV hl
  exact W.aret hX.1 hX.2.1 (hX.2.2.2.1.trans hr) (Or.inl ⟨_, rfl⟩) (Or.inr ⟨_, rfl⟩) (fun t ht hW => ⟨⟨some (.ref a), f, rfl, hp, by rw [ht]; exact hP⟩, hV.F ht⟩) hV.2.2 hd hX.2.2.2.2.1
end
section
/-! calls -/
theorem gt_cat (al : Nat → Nat) (st : List Value) : ((st.map (cz al)).map fun v => v.category).sum = (st.map fun v => v.category).sum := by
  rw [List.map_map]
  congr 2
  funext v
  exact cz_cat al v
/-- the heap has just the law's cells behind the old ones -/
theorem gt_size {D : va_G} {al : Nat → Nat} {ac : Nat → ClassId} {lay : List Ly} {f : Mem} {s : State} {H : Heap} {nc : Nat} {locs : List Loc} (hal : gt_al al) (hlen : lay.length < 1000) (hz : s.heap.size + nc = al lay.length) (h0 : al 0 ≤ s.heap.size) (hP : va_P D vwCl (gt_wd al ac lay f) H) (hV : va_S (gt_A al) s.heap H locs) (hle : H.size ≤ s.heap.size + nc) : H.size = al lay.length := by
  refine Nat.le_antisymm (by omega) ?_
  rw [hal _ hlen]
  rcases Nat.eq_zero_or_pos lay.length with h | h
  · rw [h, Nat.add_zero]; exact Nat.le_trans h0 hV.1
  · obtain ⟨q, hq⟩ : ∃ q, lay[lay.length - 1]? = some q := ⟨_, List.getElem?_eq_getElem (by omega)⟩
    have h1 := (hP _ _ (gt_wd_at (al := al) (ac := ac) (f := f) hq)).lt
    have h2 := hal (lay.length - 1) (by omega)
    dsimp only at h1
    omega
theorem gt_stand_size {p : Program} {l : Launch} {e : Env} {R : Room} {s : State} {m : MethodId} {args : Array Value} {below : List Frame} {meth : Method} {c : Code} {T : State} {locs : List Loc} {cells slots : Nat} (X : Stand p l e R s m args below meth c T locs cells slots) : T.heap.size ≤ s.heap.size + cells := X.same.2.2.1
theorem gt_blind (av : List Value) (D : va_G) (al : Nat → Nat) (ac : Nat → ClassId) (lay : List Ly) (f : Mem) : FrameBlind (va_Pc av (gt_P D al ac lay f)) := by
  intro a U g mk h
  obtain ⟨h0, h1, h2, h3, h4⟩ := h
  refine ⟨h0, h1, ?_, ?_, h4⟩
  · exact ⟨va_K.moved (u := U) (U := U.calling g mk a) (Vm.Alike.refl U.vm) h2.1, fun q hq => va_Nw.same (u := U) (U := U.calling g mk a) rfl rfl (h2.2.1 q hq), fun i hi => vk_R.same (u := U) (U := U.calling g mk a) rfl (h2.2.2.1 i hi), va_AO.moved (u := U) (U := U.calling g mk a) (Vm.Alike.refl U.vm) h2.2.2.2⟩
  · exact ⟨vk_S.moved (u := U) (U := U.calling g mk a) (Vm.Alike.refl U.vm) h3.1, va_Z.moved (u := U) (U := U.calling g mk a) (Vm.Alike.refl U.vm) h3.2.1, va_Zq.moved (u := U) (U := U.calling g mk a) (Vm.Alike.refl U.vm) h3.2.2⟩
theorem gt_good {M : MT} (h : Cond.code (gt_y M) (gt_c M) (gt_L M) (gt_r M) ∈ gw) : GoodIn gw (gt_ws M) := by
  intro w hw
  rcases List.mem_cons.mp hw with rfl | h1
  · exact ⟨h, good_of_word (List.mem_filter.mp h).2⟩
  · exact ⟨h1, good_of_word (List.mem_filter.mp h1).2⟩
/-- the callee's own words: its code, its class, its descriptor -/
def gt_MO (M : MT) (n : Nat) : Prop := Cond.code (gt_y M) (gt_c M) (gt_L M) (gt_r M) ∈ gw ∧ Cond.initialized (gt_y M).cls ∈ gw ∧ ((gt_y M).cls ≠ "java/lang/invoke/MethodHandle" ∧ (gt_y M).cls ≠ "java/lang/invoke/VarHandle" ∧ (parseMethodDescriptor (gt_y M).desc).map (fun d => d.parameters.length) = some n)
/-- an instance method's -/
def gt_IO (M : MT) : Prop := Cond.instanceMethod (gt_y M) ∈ gw ∧ Cond.selects (gt_y M).cls (gt_y M) (gt_y M) ∈ gw
/-- the room for a call of M' -/
def gt_rm (R : Room) (M' : MT) : Prop := gt_fr M' + 1 ≤ R.frames ∧ 8 + (gt_L M' + 11) + gt_wo M' ≤ R.locals
theorem gt_CB {R : Room} {s : State} {args : Array Value} {own : String} {idx : Nat} {M : MT} {n mc ms : Nat} (hts : ∀ w ∈ gw, w.before args s = true) (hO : gt_MO M n) (hl : Cond.methodLink own idx (gt_y M) ∈ gw) (hR : gt_rm R M) : CallB R s args own idx (gt_y M) (gt_c M) (gt_L M) (gt_r M) (gt_ws M) (gt_R M mc ms) mc ms n :=
  callB_of n hts (gt_good hO.1) rfl rfl rfl (hts _ hO.2.1) (hts _ hl) hO.2.2 hR
/-- behind a call -/
theorem gt_behind {p : Program} {l : Launch} {e : Env} {R : Room} {s : State} {m : MethodId} {args : Array Value} {below : List Frame} {meth : Method} {cc : Code} {H : Heap} {locs : List Loc} {nc ns mc ms : Nat} {Q : State → Prop} {D : va_G} {al : Nat → Nat} {ac : Nat → ClassId} {lay' : List Ly} {post : Option Value → Mem → Prop} {pc : Nat} {ls : Array Slot} {st rest : List Value} {a : Array Value} {T : State}
    (hV : va_S (gt_A al) s.heap H locs) (X : Stand p l e R s m args below meth cc T locs nc ns) (hT : T.heap = H)
    (hr : va_Run p l e R s m args below meth cc H locs nc ns mc ms (F0 m pc ls st) (rest.map (cz al)) (gt_Q D al ac lay' post a) (gt_A al))
    (k : ∀ (r : Option Value) (g : Mem) (H1 : Heap) (locs1 : List Loc), post r g → va_P D vwCl (gt_wd al ac lay' g) H1 → va_S (gt_A al) s.heap H1 locs1 → W p l e R s m args below meth cc H1 locs1 (nc + mc) (ns + ms) Q (F0 m (pc + 3) ls ((r.toList ++ rest).map (cz al)))) : ∃ t, Steps p.tables e below (T.setTop (F0 m pc ls st)) t ∧ Q t := by
  obtain ⟨v, st₀, t, T', L, h0, X', hL, e1, e2, ⟨⟨r, g, hv, hp, hP⟩, hz, hk⟩, go⟩ := hr T hT X
  cases hv
  rw [h0] at hz hk
  have hV1 : va_S (gt_A al) s.heap T'.heap (locs ++ L) := ⟨Nat.le_trans hV.1 (by rw [e1]; exact hz), fun q h1 h2 => by rw [e1, hk q (Nat.lt_of_lt_of_le h1 hV.1) h2]; exact hV.2.1 q h1 h2, fun q hq => by
    rcases List.mem_append.mp hq with h | h
    · exact hV.2.2 q h
    · exact hL q h⟩
  obtain ⟨t2, a1, b1⟩ := k r g T'.heap (locs ++ L) hp (by rw [e1]; exact hP) hV1 T' rfl X'
  refine ⟨t2, go t2 ?_, b1⟩
  have es : (r.toList ++ rest).map (cz al) = (r.map (cz al)).toList ++ rest.map (cz al) := by cases r <;> simp
  rw [es] at a1
  exact a1
theorem gt_pre {D : va_G} {al : Nat → Nat} {ac : Nat → ClassId} {lay : List Ly} {f : Mem} {s : State} {H : Heap} {locs : List Loc} (as : List Value) (hK : gt_K D al ac s) (hE : gt_E al s s.heap) (hP : va_P D vwCl (gt_wd al ac lay f) H) (hV : va_S (gt_A al) s.heap H locs) (hz : H.size = al lay.length) : ∀ U : State, U.heap = H → s.WarmedH U.vm → va_Pc (as.map (cz al)) (gt_P D al ac lay f) (as.map (cz al)).toArray U := by
  intro U hU hW
  exact ⟨rfl, by rw [hU]; exact hP, hK.warm hW, by rw [hU]; exact hE.move hW.alike hV, by rw [hU]; exact hz⟩
/-- invokevirtual -/
theorem A_callV {M : MT} {R : Room} {nc ns : Nat} {X : XT} {Z : ZT} {lay : List Ly} {pc : Nat} {lv : List (Nat × Value)} {st : List Value} {f : Mem} {M' : MT} {idx n ci nn : Nat} {fl : List Nat} {post : Option Value → Mem → Prop} (As rest : List Value) (b : Nat) (hd : decode (gt_c M) pc = .ok (.invokevirtual idx, 3)) (hl' : Cond.methodLink (gt_y M).cls idx (gt_y M') ∈ gw) (hO : gt_MO M' n) (hI : gt_IO M') (hst : As.reverse ++ .ref b :: rest = st) (hn : As.length = n) (hR : gt_rm R M') (hrest : (rest.map fun v => v.category).sum ≤ 8) (hcs : nc ≤ R.cells ∧ ns ≤ R.slots) (hL : lay[b]? = some (ci + 4, nn, fl)) (hC : (vwCl[ci]?).map (fun q => q.1) = some (gt_y M').cls) (ct : Ct M' 0 0 lay lay (.ref b :: As) f post)
    (k : ∀ (r : Option Value) (g : Mem), post r g → A (M, R, nc, ns, X, Z, lay) (pc + 3) lv (r.toList ++ rest) g) : A (M, R, nc, ns, X, Z, lay) pc lv st f := by
  intro p l e s m args below meth cc H locs ls D al ac hX hS hP hV hl
  subst hst
  intro T hT XX
  have hz : H.size = al lay.length := gt_size hS.1 hS.2.1 hS.2.2.2.2.2.1 hS.2.2.2.2.2.2 hP hV (by rw [← hT]; exact gt_stand_size XX)
  obtain ⟨q, hq1, hq2⟩ : ∃ q : vw_C, vwCl[ci]? = some q ∧ q.1 = (gt_y M').cls := by
    cases h : vwCl[ci]? with
    | none => rw [h] at hC; cases hC
    | some q => rw [h] at hC; exact ⟨q, rfl, Option.some.inj hC⟩
  have hrec := va_recv hS.2.2.1.1 hP hq1 (gt_wd_at (al := al) (ac := ac) (f := f) hL)
  rw [hq2] at hrec
  refine gt_behind (rest := rest) (st := (As.reverse ++ .ref b :: rest).map (cz al)) hV XX hT (va_runV (As := As.map (cz al)) (b := al b) (C := (gt_y M').cls) ⟨hX.1, hX.2.1, hX.2.2.1, hX.2.2.2.2.2.1, hX.2.2.2.2.2.2.1⟩ (ct l D al ac hS.1 hS.2.1) ⟨gt_CB hX.2.2.2.2.2.2.1 hO hl' hR, hX.2.2.2.2.2.2.1 _ hI.1, hX.2.2.2.2.2.2.1 _ hI.2⟩ ⟨gt_blind _ D al ac lay f, hrec, gt_pre (.ref b :: As) hS.2.2.1 hS.2.2.2.1 hP hV hz⟩ rfl (by rw [List.length_map]; exact hn) hl.1 (by simp [cz, List.map_reverse]) (lv_room (by rw [gt_cat]; exact hrest)) hd hcs) ?_
  intro r g H1 locs1 hp hP1 hV1
  exact k r g hp p l e s m args below meth cc H1 locs1 ls D al ac hX hS hP1 hV1 hl
/-- invokestatic -/
theorem A_callS {M : MT} {R : Room} {nc ns : Nat} {X : XT} {Z : ZT} {lay : List Ly} {pc : Nat} {lv : List (Nat × Value)} {st : List Value} {f : Mem} {M' : MT} {idx n : Nat} {post : Option Value → Mem → Prop} (As rest : List Value) (hd : decode (gt_c M) pc = .ok (.invokestatic idx, 3)) (hl' : Cond.methodLink (gt_y M).cls idx (gt_y M') ∈ gw) (hO : gt_MO M' n) (hI : Cond.static (gt_y M') ∈ gw) (hst : As.reverse ++ rest = st) (hn : As.length = n) (hR : gt_rm R M') (hrest : (rest.map fun v => v.category).sum ≤ 8) (hcs : nc ≤ R.cells ∧ ns ≤ R.slots) (ct : Ct M' 0 0 lay lay As f post)
    (k : ∀ (r : Option Value) (g : Mem), post r g → A (M, R, nc, ns, X, Z, lay) (pc + 3) lv (r.toList ++ rest) g) : A (M, R, nc, ns, X, Z, lay) pc lv st f := by
  intro p l e s m args below meth cc H locs ls D al ac hX hS hP hV hl
  subst hst
  intro T hT XX
  have hz : H.size = al lay.length := gt_size hS.1 hS.2.1 hS.2.2.2.2.2.1 hS.2.2.2.2.2.2 hP hV (by rw [← hT]; exact gt_stand_size XX)
  refine gt_behind (rest := rest) (st := (As.reverse ++ rest).map (cz al)) hV XX hT (va_runS (As := As.map (cz al)) ⟨hX.1, hX.2.1, hX.2.2.1, hX.2.2.2.2.2.1, hX.2.2.2.2.2.2.1⟩ (ct l D al ac hS.1 hS.2.1) ⟨gt_CB hX.2.2.2.2.2.2.1 hO hl' hR, hX.2.2.2.2.2.2.1 _ hI⟩ ⟨gt_blind _ D al ac lay f, gt_pre As hS.2.2.1 hS.2.2.2.1 hP hV hz⟩ rfl (by rw [List.length_map]; exact hn) hl.1 (by simp [List.map_reverse]) (lv_room (by rw [gt_cat]; exact hrest)) hd hcs) ?_
  intro r g H1 locs1 hp hP1 hV1
  exact k r g hp p l e s m args below meth cc H1 locs1 ls D al ac hX hS hP1 hV1 hl
/-- invokestatic of a nest mate's private method -/
theorem A_callSN {M : MT} {R : Room} {nc ns : Nat} {X : XT} {Z : ZT} {lay : List Ly} {pc : Nat} {lv : List (Nat × Value)} {st : List Value} {f : Mem} {M' : MT} {idx n : Nat} {post : Option Value → Mem → Prop} (As rest : List Value) (hd : decode (gt_c M) pc = .ok (.invokestatic idx, 3)) (hl' : ((gt_y M).cls, idx, gt_y M') ∈ gt_nest) (hO : gt_MO M' n) (hI : Cond.static (gt_y M') ∈ gw) (hst : As.reverse ++ rest = st) (hn : As.length = n) (hR : gt_rm R M') (hrest : (rest.map fun v => v.category).sum ≤ 8) (hcs : nc ≤ R.cells ∧ ns ≤ R.slots) (ct : Ct M' 0 0 lay lay As f post)
    (k : ∀ (r : Option Value) (g : Mem), post r g → A (M, R, nc, ns, X, Z, lay) (pc + 3) lv (r.toList ++ rest) g) : A (M, R, nc, ns, X, Z, lay) pc lv st f := by
  intro p l e s m args below meth cc H locs ls D al ac hX hS hP hV hl
  subst hst
  intro T hT XX
  have hz : H.size = al lay.length := gt_size hS.1 hS.2.1 hS.2.2.2.2.2.1 hS.2.2.2.2.2.2 hP hV (by rw [← hT]; exact gt_stand_size XX)
  have hts := hX.2.2.2.2.2.2.1
  refine gt_behind (rest := rest) (st := (As.reverse ++ rest).map (cz al)) hV XX hT (va_runSN (As := As.map (cz al)) (host := RX10) ⟨hX.1, hX.2.1, hX.2.2.1, hX.2.2.2.2.2.1, hts⟩ (ct l D al ac hS.1 hS.2.1) ⟨va_cnB n hts (gt_good hO.1) rfl rfl rfl (hS.2.2.1.2.1 _ hl') (hts _ hO.2.1) hO.2.2 hR, hts _ hI, trivial⟩ ⟨gt_blind _ D al ac lay f, gt_pre As hS.2.2.1 hS.2.2.2.1 hP hV hz⟩ rfl (by rw [List.length_map]; exact hn) hl.1 (by simp [List.map_reverse]) (lv_room (by rw [gt_cat]; exact hrest)) hd hcs) ?_
  intro r g H1 locs1 hp hP1 hV1
  exact k r g hp p l e s m args below meth cc H1 locs1 ls D al ac hX hS hP1 hV1 hl
end
section
/-! methods: name, bytes, locals, answer, frames, words of their rooms; and the tables' words by their places -/
theorem ini_RX10 : Cond.initialized RX10 ∈ gw := mem_gw 68 (by decide +kernel) (by decide +kernel)
theorem ini_RX0 : Cond.initialized RX0 ∈ gw := mem_gw 75 (by decide +kernel) (by decide +kernel)
theorem ini_RX1 : Cond.initialized RX1 ∈ gw := mem_gw 69 (by decide +kernel) (by decide +kernel)
theorem ini_RX2 : Cond.initialized RX2 ∈ gw := mem_gw 78 (by decide +kernel) (by decide +kernel)
theorem ini_RX3 : Cond.initialized RX3 ∈ gw := mem_gw 70 (by decide +kernel) (by decide +kernel)
theorem ini_RX4 : Cond.initialized RX4 ∈ gw := mem_gw 72 (by decide +kernel) (by decide +kernel)
theorem ini_RX5 : Cond.initialized RX5 ∈ gw := mem_gw 85 (by decide +kernel) (by decide +kernel)
theorem ini_RX6 : Cond.initialized RX6 ∈ gw := mem_gw 76 (by decide +kernel) (by decide +kernel)
theorem ini_RX7 : Cond.initialized RX7 ∈ gw := mem_gw 77 (by decide +kernel) (by decide +kernel)
theorem ini_RX8 : Cond.initialized RX8 ∈ gw := mem_gw 73 (by decide +kernel) (by decide +kernel)
theorem ini_RX9 : Cond.initialized RX9 ∈ gw := mem_gw 74 (by decide +kernel) (by decide +kernel)
theorem ini_RL : Cond.initialized RL ∈ gw := mem_gw 67 (by decide +kernel) (by decide +kernel)
theorem ini_RX11 : Cond.initialized RX11 ∈ gw := mem_gw 79 (by decide +kernel) (by decide +kernel)
theorem ini_RJ9 : Cond.initialized RJ9 ∈ gw := mem_gw 86 (by decide +kernel) (by decide +kernel)
theorem ini_RJ0 : Cond.initialized RJ0 ∈ gw := mem_gw 80 (by decide +kernel) (by decide +kernel)
theorem ini_RJ1 : Cond.initialized RJ1 ∈ gw := mem_gw 81 (by decide +kernel) (by decide +kernel)
theorem ini_RJ2 : Cond.initialized RJ2 ∈ gw := mem_gw 83 (by decide +kernel) (by decide +kernel)
theorem ini_RJ10 : Cond.initialized RJ10 ∈ gw := mem_gw 84 (by decide +kernel) (by decide +kernel)
theorem ini_RJ7 : Cond.initialized RJ7 ∈ gw := mem_gw 71 (by decide +kernel) (by decide +kernel)
theorem ini_RJ3 : Cond.initialized RJ3 ∈ gw := mem_gw 82 (by decide +kernel) (by decide +kernel)
def MJ0_charAt_5068e : MT := (yJ0_charAt_5068e, cJ0_charAt_5068e, 2, some .char, 4, 85)
theorem oJ0_charAt_5068e : gt_MO MJ0_charAt_5068e 1 := ⟨mem_gw 514 (by decide +kernel) (by decide +kernel), ini_RJ0, (by decide +kernel)⟩
theorem iJ0_charAt_5068e : gt_IO MJ0_charAt_5068e := ⟨mem_gw 512 (by decide +kernel) (by decide +kernel), mem_gw 513 (by decide +kernel) (by decide +kernel)⟩
def MJ0_checkIndex_df160 : MT := (yJ0_checkIndex_df160, cJ0_checkIndex_df160, 2, none, 1, 22)
theorem oJ0_checkIndex_df160 : gt_MO MJ0_checkIndex_df160 2 := ⟨mem_gw 524 (by decide +kernel) (by decide +kernel), ini_RJ0, (by decide +kernel)⟩
theorem sJ0_checkIndex_df160 : Cond.static (gt_y MJ0_checkIndex_df160) ∈ gw := mem_gw 523 (by decide +kernel) (by decide +kernel)
def MJ0_coder_7d493 : MT := (yJ0_coder_7d493, cJ0_coder_7d493, 1, some .byte, 0, 0)
theorem oJ0_coder_7d493 : gt_MO MJ0_coder_7d493 0 := ⟨mem_gw 508 (by decide +kernel) (by decide +kernel), ini_RJ0, (by decide +kernel)⟩
theorem iJ0_coder_7d493 : gt_IO MJ0_coder_7d493 := ⟨mem_gw 506 (by decide +kernel) (by decide +kernel), mem_gw 507 (by decide +kernel) (by decide +kernel)⟩
def MJ0_isLatin1_aae02 : MT := (yJ0_isLatin1_aae02, cJ0_isLatin1_aae02, 1, some .boolean, 0, 0)
theorem oJ0_isLatin1_aae02 : gt_MO MJ0_isLatin1_aae02 0 := ⟨mem_gw 518 (by decide +kernel) (by decide +kernel), ini_RJ0, (by decide +kernel)⟩
theorem iJ0_isLatin1_aae02 : gt_IO MJ0_isLatin1_aae02 := ⟨mem_gw 516 (by decide +kernel) (by decide +kernel), mem_gw 517 (by decide +kernel) (by decide +kernel)⟩
def MJ0_length_8abf5 : MT := (yJ0_length_8abf5, cJ0_length_8abf5, 1, some .int, 1, 20)
theorem oJ0_length_8abf5 : gt_MO MJ0_length_8abf5 0 := ⟨mem_gw 504 (by decide +kernel) (by decide +kernel), ini_RJ0, (by decide +kernel)⟩
theorem iJ0_length_8abf5 : gt_IO MJ0_length_8abf5 := ⟨mem_gw 502 (by decide +kernel) (by decide +kernel), mem_gw 503 (by decide +kernel) (by decide +kernel)⟩
def MJ1_charAt_3b067 : MT := (yJ1_charAt_3b067, cJ1_charAt_3b067, 2, some .char, 2, 43)
theorem oJ1_charAt_3b067 : gt_MO MJ1_charAt_3b067 2 := ⟨mem_gw 521 (by decide +kernel) (by decide +kernel), ini_RJ1, (by decide +kernel)⟩
theorem sJ1_charAt_3b067 : Cond.static (gt_y MJ1_charAt_3b067) ∈ gw := mem_gw 520 (by decide +kernel) (by decide +kernel)
def MJ3_checkIndex_8e157 : MT := (yJ3_checkIndex_8e157, cJ3_checkIndex_8e157, 3, some .int, 0, 0)
theorem oJ3_checkIndex_8e157 : gt_MO MJ3_checkIndex_8e157 3 := ⟨mem_gw 529 (by decide +kernel) (by decide +kernel), ini_RJ3, (by decide +kernel)⟩
theorem sJ3_checkIndex_8e157 : Cond.static (gt_y MJ3_checkIndex_8e157) ∈ gw := mem_gw 528 (by decide +kernel) (by decide +kernel)
def MJ7_fill_53178 : MT := (yJ7_fill_53178, cJ7_fill_53178, 4, none, 0, 0)
theorem oJ7_fill_53178 : gt_MO MJ7_fill_53178 2 := ⟨mem_gw 122 (by decide +kernel) (by decide +kernel), ini_RJ7, (by decide +kernel)⟩
theorem sJ7_fill_53178 : Cond.static (gt_y MJ7_fill_53178) ∈ gw := mem_gw 121 (by decide +kernel) (by decide +kernel)
def MX0_allSo : MT := (yX0_allSo, cX0_allSo, 3, some .boolean, 1, 22)
theorem oX0_allSo : gt_MO MX0_allSo 1 := ⟨mem_gw 786 (by decide +kernel) (by decide +kernel), ini_RX0, (by decide +kernel)⟩
theorem iX0_allSo : gt_IO MX0_allSo := ⟨mem_gw 784 (by decide +kernel) (by decide +kernel), mem_gw 785 (by decide +kernel) (by decide +kernel)⟩
def MX0_append : MT := (yX0_append, cX0_append, 4, none, 0, 0)
theorem oX0_append : gt_MO MX0_append 3 := ⟨mem_gw 862 (by decide +kernel) (by decide +kernel), ini_RX0, (by decide +kernel)⟩
theorem iX0_append : gt_IO MX0_append := ⟨mem_gw 860 (by decide +kernel) (by decide +kernel), mem_gw 861 (by decide +kernel) (by decide +kernel)⟩
def MX0_init : MT := (yX0_init, cX0_init, 1, none, 1, 20)
theorem oX0_init : gt_MO MX0_init 0 := ⟨mem_gw 251 (by decide +kernel) (by decide +kernel), ini_RX0, (by decide +kernel)⟩
theorem nX0_init : Cond.instanceMethod (gt_y MX0_init) ∈ gw := mem_gw 250 (by decide +kernel) (by decide +kernel)
def MX0_isSo : MT := (yX0_isSo, cX0_isSo, 3, some .boolean, 0, 0)
theorem oX0_isSo : gt_MO MX0_isSo 3 := ⟨mem_gw 789 (by decide +kernel) (by decide +kernel), ini_RX0, (by decide +kernel)⟩
theorem sX0_isSo : Cond.static (gt_y MX0_isSo) ∈ gw := mem_gw 788 (by decide +kernel) (by decide +kernel)
def MX10_are : MT := (yX10_are, cX10_are, 2, some .int, 1, 23)
theorem oX10_are : gt_MO MX10_are 1 := ⟨mem_gw 704 (by decide +kernel) (by decide +kernel), ini_RX10, (by decide +kernel)⟩
theorem iX10_are : gt_IO MX10_are := ⟨mem_gw 702 (by decide +kernel) (by decide +kernel), mem_gw 703 (by decide +kernel) (by decide +kernel)⟩
def MX10_asNumber : MT := (yX10_asNumber, cX10_asNumber, 1, some .int, 0, 0)
theorem oX10_asNumber : gt_MO MX10_asNumber 1 := ⟨mem_gw 434 (by decide +kernel) (by decide +kernel), ini_RX10, (by decide +kernel)⟩
theorem sX10_asNumber : Cond.static (gt_y MX10_asNumber) ∈ gw := mem_gw 433 (by decide +kernel) (by decide +kernel)
def MX10_back : MT := (yX10_back, cX10_back, 1, some .int, 3, 69)
theorem oX10_back : gt_MO MX10_back 0 := ⟨mem_gw 899 (by decide +kernel) (by decide +kernel), ini_RX10, (by decide +kernel)⟩
theorem iX10_back : gt_IO MX10_back := ⟨mem_gw 897 (by decide +kernel) (by decide +kernel), mem_gw 898 (by decide +kernel) (by decide +kernel)⟩
def MX10_cause : MT := (yX10_cause, cX10_cause, 3, some .int, 1, 22)
theorem oX10_cause : gt_MO MX10_cause 2 := ⟨mem_gw 725 (by decide +kernel) (by decide +kernel), ini_RX10, (by decide +kernel)⟩
theorem iX10_cause : gt_IO MX10_cause := ⟨mem_gw 723 (by decide +kernel) (by decide +kernel), mem_gw 724 (by decide +kernel) (by decide +kernel)⟩
def MX10_cell : MT := (yX10_cell, cX10_cell, 2, some .int, 1, 20)
theorem oX10_cell : gt_MO MX10_cell 1 := ⟨mem_gw 448 (by decide +kernel) (by decide +kernel), ini_RX10, (by decide +kernel)⟩
theorem iX10_cell : gt_IO MX10_cell := ⟨mem_gw 446 (by decide +kernel) (by decide +kernel), mem_gw 447 (by decide +kernel) (by decide +kernel)⟩
def MX10_clear : MT := (yX10_clear, cX10_clear, 2, some .int, 0, 0)
theorem oX10_clear : gt_MO MX10_clear 0 := ⟨mem_gw 460 (by decide +kernel) (by decide +kernel), ini_RX10, (by decide +kernel)⟩
theorem iX10_clear : gt_IO MX10_clear := ⟨mem_gw 458 (by decide +kernel) (by decide +kernel), mem_gw 459 (by decide +kernel) (by decide +kernel)⟩
def MX10_condition : MT := (yX10_condition, cX10_condition, 4, some .int, 1, 23)
theorem oX10_condition : gt_MO MX10_condition 3 := ⟨mem_gw 858 (by decide +kernel) (by decide +kernel), ini_RX10, (by decide +kernel)⟩
theorem iX10_condition : gt_IO MX10_condition := ⟨mem_gw 856 (by decide +kernel) (by decide +kernel), mem_gw 857 (by decide +kernel) (by decide +kernel)⟩
def MX10_feed : MT := (yX10_feed, cX10_feed, 2, some .int, 1, 21)
theorem oX10_feed : gt_MO MX10_feed 1 := ⟨mem_gw 452 (by decide +kernel) (by decide +kernel), ini_RX10, (by decide +kernel)⟩
theorem iX10_feed : gt_IO MX10_feed := ⟨mem_gw 450 (by decide +kernel) (by decide +kernel), mem_gw 451 (by decide +kernel) (by decide +kernel)⟩
def MX10_follow : MT := (yX10_follow, cX10_follow, 7, some .int, 5, 115)
theorem oX10_follow : gt_MO MX10_follow 3 := ⟨mem_gw 666 (by decide +kernel) (by decide +kernel), ini_RX10, (by decide +kernel)⟩
theorem iX10_follow : gt_IO MX10_follow := ⟨mem_gw 664 (by decide +kernel) (by decide +kernel), mem_gw 665 (by decide +kernel) (by decide +kernel)⟩
def MX10_found : MT := (yX10_found, cX10_found, 2, some .int, 5, 117)
theorem oX10_found : gt_MO MX10_found 1 := ⟨mem_gw 733 (by decide +kernel) (by decide +kernel), ini_RX10, (by decide +kernel)⟩
theorem iX10_found : gt_IO MX10_found := ⟨mem_gw 731 (by decide +kernel) (by decide +kernel), mem_gw 732 (by decide +kernel) (by decide +kernel)⟩
def MX10_gate : MT := (yX10_gate, cX10_gate, 3, some .int, 1, 22)
theorem oX10_gate : gt_MO MX10_gate 2 := ⟨mem_gw 692 (by decide +kernel) (by decide +kernel), ini_RX10, (by decide +kernel)⟩
theorem iX10_gate : gt_IO MX10_gate := ⟨mem_gw 690 (by decide +kernel) (by decide +kernel), mem_gw 691 (by decide +kernel) (by decide +kernel)⟩
def MX10_get : MT := (yX10_get, cX10_get, 3, some .int, 1, 22)
theorem oX10_get : gt_MO MX10_get 2 := ⟨mem_gw 888 (by decide +kernel) (by decide +kernel), ini_RX10, (by decide +kernel)⟩
theorem iX10_get : gt_IO MX10_get := ⟨mem_gw 886 (by decide +kernel) (by decide +kernel), mem_gw 887 (by decide +kernel) (by decide +kernel)⟩
def MX10_holds : MT := (yX10_holds, cX10_holds, 1, some .int, 2, 44)
theorem oX10_holds : gt_MO MX10_holds 0 := ⟨mem_gw 866 (by decide +kernel) (by decide +kernel), ini_RX10, (by decide +kernel)⟩
theorem iX10_holds : gt_IO MX10_holds := ⟨mem_gw 864 (by decide +kernel) (by decide +kernel), mem_gw 865 (by decide +kernel) (by decide +kernel)⟩
def MX10_image : MT := (yX10_image, cX10_image, 1, some .int, 3, 69)
theorem oX10_image : gt_MO MX10_image 0 := ⟨mem_gw 893 (by decide +kernel) (by decide +kernel), ini_RX10, (by decide +kernel)⟩
theorem iX10_image : gt_IO MX10_image := ⟨mem_gw 891 (by decide +kernel) (by decide +kernel), mem_gw 892 (by decide +kernel) (by decide +kernel)⟩
def MX10_init : MT := (yX10_init, cX10_init, 1, none, 4, 81)
theorem oX10_init : gt_MO MX10_init 0 := ⟨mem_gw 91 (by decide +kernel) (by decide +kernel), ini_RX10, (by decide +kernel)⟩
theorem nX10_init : Cond.instanceMethod (gt_y MX10_init) ∈ gw := mem_gw 90 (by decide +kernel) (by decide +kernel)
def MX10_isCell : MT := (yX10_isCell, cX10_isCell, 1, some .boolean, 0, 0)
theorem oX10_isCell : gt_MO MX10_isCell 1 := ⟨mem_gw 441 (by decide +kernel) (by decide +kernel), ini_RX10, (by decide +kernel)⟩
theorem sX10_isCell : Cond.static (gt_y MX10_isCell) ∈ gw := mem_gw 440 (by decide +kernel) (by decide +kernel)
def MX10_isCellNumber : MT := (yX10_isCellNumber, cX10_isCellNumber, 1, some .boolean, 0, 0)
theorem oX10_isCellNumber : gt_MO MX10_isCellNumber 1 := ⟨mem_gw 444 (by decide +kernel) (by decide +kernel), ini_RX10, (by decide +kernel)⟩
theorem sX10_isCellNumber : Cond.static (gt_y MX10_isCellNumber) ∈ gw := mem_gw 443 (by decide +kernel) (by decide +kernel)
def MX10_isList : MT := (yX10_isList, cX10_isList, 1, some .boolean, 0, 0)
theorem oX10_isList : gt_MO MX10_isList 1 := ⟨mem_gw 673 (by decide +kernel) (by decide +kernel), ini_RX10, (by decide +kernel)⟩
theorem sX10_isList : Cond.static (gt_y MX10_isList) ∈ gw := mem_gw 672 (by decide +kernel) (by decide +kernel)
def MX10_isMonitor : MT := (yX10_isMonitor, cX10_isMonitor, 1, some .boolean, 0, 0)
theorem oX10_isMonitor : gt_MO MX10_isMonitor 1 := ⟨mem_gw 427 (by decide +kernel) (by decide +kernel), ini_RX10, (by decide +kernel)⟩
theorem sX10_isMonitor : Cond.static (gt_y MX10_isMonitor) ∈ gw := mem_gw 426 (by decide +kernel) (by decide +kernel)
def MX10_isTask : MT := (yX10_isTask, cX10_isTask, 2, some .boolean, 0, 0)
theorem oX10_isTask : gt_MO MX10_isTask 1 := ⟨mem_gw 468 (by decide +kernel) (by decide +kernel), ini_RX10, (by decide +kernel)⟩
theorem iX10_isTask : gt_IO MX10_isTask := ⟨mem_gw 467 (by decide +kernel) (by decide +kernel), mem_gw 0 (by decide +kernel) (by decide +kernel)⟩
def MX10_lay : MT := (yX10_lay, cX10_lay, 9, some .int, 5, 117)
theorem oX10_lay : gt_MO MX10_lay 3 := ⟨mem_gw 833 (by decide +kernel) (by decide +kernel), ini_RX10, (by decide +kernel)⟩
theorem iX10_lay : gt_IO MX10_lay := ⟨mem_gw 831 (by decide +kernel) (by decide +kernel), mem_gw 832 (by decide +kernel) (by decide +kernel)⟩
def MX10_list : MT := (yX10_list, cX10_list, 3, some .int, 2, 45)
theorem oX10_list : gt_MO MX10_list 2 := ⟨mem_gw 871 (by decide +kernel) (by decide +kernel), ini_RX10, (by decide +kernel)⟩
theorem iX10_list : gt_IO MX10_list := ⟨mem_gw 869 (by decide +kernel) (by decide +kernel), mem_gw 870 (by decide +kernel) (by decide +kernel)⟩
def MX10_missing : MT := (yX10_missing, cX10_missing, 4, some .int, 1, 21)
theorem oX10_missing : gt_MO MX10_missing 2 := ⟨mem_gw 424 (by decide +kernel) (by decide +kernel), ini_RX10, (by decide +kernel)⟩
theorem iX10_missing : gt_IO MX10_missing := ⟨mem_gw 422 (by decide +kernel) (by decide +kernel), mem_gw 423 (by decide +kernel) (by decide +kernel)⟩
def MX10_of : MT := (yX10_of, cX10_of, 3, some .int, 2, 44)
theorem oX10_of : gt_MO MX10_of 2 := ⟨mem_gw 677 (by decide +kernel) (by decide +kernel), ini_RX10, (by decide +kernel)⟩
theorem iX10_of : gt_IO MX10_of := ⟨mem_gw 675 (by decide +kernel) (by decide +kernel), mem_gw 676 (by decide +kernel) (by decide +kernel)⟩
def MX10_outcome : MT := (yX10_outcome, cX10_outcome, 3, some .int, 5, 117)
theorem oX10_outcome : gt_MO MX10_outcome 2 := ⟨mem_gw 837 (by decide +kernel) (by decide +kernel), ini_RX10, (by decide +kernel)⟩
theorem iX10_outcome : gt_IO MX10_outcome := ⟨mem_gw 835 (by decide +kernel) (by decide +kernel), mem_gw 836 (by decide +kernel) (by decide +kernel)⟩
def MX10_program : MT := (yX10_program, cX10_program, 3, some .int, 9, 197)
theorem oX10_program : gt_MO MX10_program 1 := ⟨mem_gw 464 (by decide +kernel) (by decide +kernel), ini_RX10, (by decide +kernel)⟩
theorem iX10_program : gt_IO MX10_program := ⟨mem_gw 462 (by decide +kernel) (by decide +kernel), mem_gw 463 (by decide +kernel) (by decide +kernel)⟩
def MX10_put : MT := (yX10_put, cX10_put, 4, some .int, 1, 20)
theorem oX10_put : gt_MO MX10_put 2 := ⟨mem_gw 438 (by decide +kernel) (by decide +kernel), ini_RX10, (by decide +kernel)⟩
theorem iX10_put : gt_IO MX10_put := ⟨mem_gw 436 (by decide +kernel) (by decide +kernel), mem_gw 437 (by decide +kernel) (by decide +kernel)⟩
def MX10_restart : MT := (yX10_restart, cX10_restart, 1, some .int, 3, 63)
theorem oX10_restart : gt_MO MX10_restart 0 := ⟨mem_gw 412 (by decide +kernel) (by decide +kernel), ini_RX10, (by decide +kernel)⟩
theorem iX10_restart : gt_IO MX10_restart := ⟨mem_gw 410 (by decide +kernel) (by decide +kernel), mem_gw 411 (by decide +kernel) (by decide +kernel)⟩
def MX10_round : MT := (yX10_round, cX10_round, 1, some .int, 5, 117)
theorem oX10_round : gt_MO MX10_round 0 := ⟨mem_gw 850 (by decide +kernel) (by decide +kernel), ini_RX10, (by decide +kernel)⟩
theorem iX10_round : gt_IO MX10_round := ⟨mem_gw 848 (by decide +kernel) (by decide +kernel), mem_gw 849 (by decide +kernel) (by decide +kernel)⟩
def MX10_run : MT := (yX10_run, cX10_run, 5, some .int, 5, 115)
theorem oX10_run : gt_MO MX10_run 2 := ⟨mem_gw 658 (by decide +kernel) (by decide +kernel), ini_RX10, (by decide +kernel)⟩
theorem iX10_run : gt_IO MX10_run := ⟨mem_gw 656 (by decide +kernel) (by decide +kernel), mem_gw 657 (by decide +kernel) (by decide +kernel)⟩
def MX10_schedule : MT := (yX10_schedule, cX10_schedule, 4, some .int, 5, 117)
theorem oX10_schedule : gt_MO MX10_schedule 2 := ⟨mem_gw 825 (by decide +kernel) (by decide +kernel), ini_RX10, (by decide +kernel)⟩
theorem iX10_schedule : gt_IO MX10_schedule := ⟨mem_gw 823 (by decide +kernel) (by decide +kernel), mem_gw 824 (by decide +kernel) (by decide +kernel)⟩
def MX10_set : MT := (yX10_set, cX10_set, 5, some .int, 2, 41)
theorem oX10_set : gt_MO MX10_set 3 := ⟨mem_gw 880 (by decide +kernel) (by decide +kernel), ini_RX10, (by decide +kernel)⟩
theorem iX10_set : gt_IO MX10_set := ⟨mem_gw 878 (by decide +kernel) (by decide +kernel), mem_gw 879 (by decide +kernel) (by decide +kernel)⟩
def MX10_stands : MT := (yX10_stands, cX10_stands, 5, some .int, 1, 21)
theorem oX10_stands : gt_MO MX10_stands 3 := ⟨mem_gw 699 (by decide +kernel) (by decide +kernel), ini_RX10, (by decide +kernel)⟩
theorem iX10_stands : gt_IO MX10_stands := ⟨mem_gw 697 (by decide +kernel) (by decide +kernel), mem_gw 698 (by decide +kernel) (by decide +kernel)⟩
def MX10_statement : MT := (yX10_statement, cX10_statement, 4, some .int, 1, 22)
theorem oX10_statement : gt_MO MX10_statement 3 := ⟨mem_gw 596 (by decide +kernel) (by decide +kernel), ini_RX10, (by decide +kernel)⟩
theorem iX10_statement : gt_IO MX10_statement := ⟨mem_gw 594 (by decide +kernel) (by decide +kernel), mem_gw 595 (by decide +kernel) (by decide +kernel)⟩
def MX10_step : MT := (yX10_step, cX10_step, 2, some .int, 5, 115)
theorem oX10_step : gt_MO MX10_step 1 := ⟨mem_gw 604 (by decide +kernel) (by decide +kernel), ini_RX10, (by decide +kernel)⟩
theorem iX10_step : gt_IO MX10_step := ⟨mem_gw 602 (by decide +kernel) (by decide +kernel), mem_gw 603 (by decide +kernel) (by decide +kernel)⟩
def MX10_takeTruly : MT := (yX10_takeTruly, cX10_takeTruly, 3, none, 4, 93)
theorem oX10_takeTruly : gt_MO MX10_takeTruly 1 := ⟨mem_gw 608 (by decide +kernel) (by decide +kernel), ini_RX10, (by decide +kernel)⟩
theorem iX10_takeTruly : gt_IO MX10_takeTruly := ⟨mem_gw 607 (by decide +kernel) (by decide +kernel), mem_gw 11 (by decide +kernel) (by decide +kernel)⟩
def MX10_task : MT := (yX10_task, cX10_task, 1, some .int, 1, 20)
theorem oX10_task : gt_MO MX10_task 0 := ⟨mem_gw 400 (by decide +kernel) (by decide +kernel), ini_RX10, (by decide +kernel)⟩
theorem iX10_task : gt_IO MX10_task := ⟨mem_gw 398 (by decide +kernel) (by decide +kernel), mem_gw 399 (by decide +kernel) (by decide +kernel)⟩
def MX10_told : MT := (yX10_told, cX10_told, 2, some .int, 2, 43)
theorem oX10_told : gt_MO MX10_told 1 := ⟨mem_gw 712 (by decide +kernel) (by decide +kernel), ini_RX10, (by decide +kernel)⟩
theorem iX10_told : gt_IO MX10_told := ⟨mem_gw 710 (by decide +kernel) (by decide +kernel), mem_gw 711 (by decide +kernel) (by decide +kernel)⟩
def MX10_under : MT := (yX10_under, cX10_under, 2, some .int, 5, 117)
theorem oX10_under : gt_MO MX10_under 1 := ⟨mem_gw 846 (by decide +kernel) (by decide +kernel), ini_RX10, (by decide +kernel)⟩
theorem iX10_under : gt_IO MX10_under := ⟨mem_gw 844 (by decide +kernel) (by decide +kernel), mem_gw 845 (by decide +kernel) (by decide +kernel)⟩
def MX11_are : MT := (yX11_are, cX11_are, 2, some .int, 1, 25)
theorem oX11_are : gt_MO MX11_are 1 := ⟨mem_gw 1180 (by decide +kernel) (by decide +kernel), ini_RX11, (by decide +kernel)⟩
theorem iX11_are : gt_IO MX11_are := ⟨mem_gw 1178 (by decide +kernel) (by decide +kernel), mem_gw 1179 (by decide +kernel) (by decide +kernel)⟩
def MX11_areCellsLike : MT := (yX11_areCellsLike, cX11_areCellsLike, 5, some .boolean, 0, 0)
theorem oX11_areCellsLike : gt_MO MX11_areCellsLike 2 := ⟨mem_gw 1250 (by decide +kernel) (by decide +kernel), ini_RX11, (by decide +kernel)⟩
theorem iX11_areCellsLike : gt_IO MX11_areCellsLike := ⟨mem_gw 1249 (by decide +kernel) (by decide +kernel), mem_gw 62 (by decide +kernel) (by decide +kernel)⟩
def MX11_areIn : MT := (yX11_areIn, cX11_areIn, 6, some .int, 0, 0)
theorem oX11_areIn : gt_MO MX11_areIn 3 := ⟨mem_gw 1185 (by decide +kernel) (by decide +kernel), ini_RX11, (by decide +kernel)⟩
theorem iX11_areIn : gt_IO MX11_areIn := ⟨mem_gw 1184 (by decide +kernel) (by decide +kernel), mem_gw 49 (by decide +kernel) (by decide +kernel)⟩
def MX11_areSo : MT := (yX11_areSo, cX11_areSo, 8, some .boolean, 0, 0)
theorem oX11_areSo : gt_MO MX11_areSo 2 := ⟨mem_gw 1238 (by decide +kernel) (by decide +kernel), ini_RX11, (by decide +kernel)⟩
theorem iX11_areSo : gt_IO MX11_areSo := ⟨mem_gw 1237 (by decide +kernel) (by decide +kernel), mem_gw 59 (by decide +kernel) (by decide +kernel)⟩
def MX11_back : MT := (yX11_back, cX11_back, 2, some .int, 1, 25)
theorem oX11_back : gt_MO MX11_back 0 := ⟨mem_gw 1318 (by decide +kernel) (by decide +kernel), ini_RX11, (by decide +kernel)⟩
theorem iX11_back : gt_IO MX11_back := ⟨mem_gw 1316 (by decide +kernel) (by decide +kernel), mem_gw 1317 (by decide +kernel) (by decide +kernel)⟩
def MX11_cause : MT := (yX11_cause, cX11_cause, 3, some .int, 1, 25)
theorem oX11_cause : gt_MO MX11_cause 2 := ⟨mem_gw 1201 (by decide +kernel) (by decide +kernel), ini_RX11, (by decide +kernel)⟩
theorem iX11_cause : gt_IO MX11_cause := ⟨mem_gw 1199 (by decide +kernel) (by decide +kernel), mem_gw 1200 (by decide +kernel) (by decide +kernel)⟩
def MX11_cell : MT := (yX11_cell, cX11_cell, 2, some .int, 2, 45)
theorem oX11_cell : gt_MO MX11_cell 1 := ⟨mem_gw 1026 (by decide +kernel) (by decide +kernel), ini_RX11, (by decide +kernel)⟩
theorem iX11_cell : gt_IO MX11_cell := ⟨mem_gw 1024 (by decide +kernel) (by decide +kernel), mem_gw 1025 (by decide +kernel) (by decide +kernel)⟩
def MX11_chosen : MT := (yX11_chosen, cX11_chosen, 7, some .int, 3, 67)
theorem oX11_chosen : gt_MO MX11_chosen 1 := ⟨mem_gw 1149 (by decide +kernel) (by decide +kernel), ini_RX11, (by decide +kernel)⟩
theorem iX11_chosen : gt_IO MX11_chosen := ⟨mem_gw 1148 (by decide +kernel) (by decide +kernel), mem_gw 46 (by decide +kernel) (by decide +kernel)⟩
def MX11_clear : MT := (yX11_clear, cX11_clear, 2, some .int, 0, 0)
theorem oX11_clear : gt_MO MX11_clear 0 := ⟨mem_gw 1035 (by decide +kernel) (by decide +kernel), ini_RX11, (by decide +kernel)⟩
theorem iX11_clear : gt_IO MX11_clear := ⟨mem_gw 1033 (by decide +kernel) (by decide +kernel), mem_gw 1034 (by decide +kernel) (by decide +kernel)⟩
def MX11_comes : MT := (yX11_comes, cX11_comes, 5, none, 0, 0)
theorem oX11_comes : gt_MO MX11_comes 4 := ⟨mem_gw 1136 (by decide +kernel) (by decide +kernel), ini_RX11, (by decide +kernel)⟩
theorem iX11_comes : gt_IO MX11_comes := ⟨mem_gw 1135 (by decide +kernel) (by decide +kernel), mem_gw 44 (by decide +kernel) (by decide +kernel)⟩
def MX11_condition : MT := (yX11_condition, cX11_condition, 4, some .int, 2, 45)
theorem oX11_condition : gt_MO MX11_condition 3 := ⟨mem_gw 1293 (by decide +kernel) (by decide +kernel), ini_RX11, (by decide +kernel)⟩
theorem iX11_condition : gt_IO MX11_condition := ⟨mem_gw 1291 (by decide +kernel) (by decide +kernel), mem_gw 1292 (by decide +kernel) (by decide +kernel)⟩
def MX11_copies : MT := (yX11_copies, cX11_copies, 6, none, 0, 0)
theorem oX11_copies : gt_MO MX11_copies 5 := ⟨mem_gw 1084 (by decide +kernel) (by decide +kernel), ini_RX11, (by decide +kernel)⟩
theorem sX11_copies : Cond.static (gt_y MX11_copies) ∈ gw := mem_gw 1083 (by decide +kernel) (by decide +kernel)
def MX11_deepest : MT := (yX11_deepest, cX11_deepest, 3, some .int, 0, 0)
theorem oX11_deepest : gt_MO MX11_deepest 0 := ⟨mem_gw 1226 (by decide +kernel) (by decide +kernel), ini_RX11, (by decide +kernel)⟩
theorem iX11_deepest : gt_IO MX11_deepest := ⟨mem_gw 1225 (by decide +kernel) (by decide +kernel), mem_gw 56 (by decide +kernel) (by decide +kernel)⟩
def MX11_ends : MT := (yX11_ends, cX11_ends, 4, none, 2, 47)
theorem oX11_ends : gt_MO MX11_ends 2 := ⟨mem_gw 1112 (by decide +kernel) (by decide +kernel), ini_RX11, (by decide +kernel)⟩
theorem iX11_ends : gt_IO MX11_ends := ⟨mem_gw 1111 (by decide +kernel) (by decide +kernel), mem_gw 38 (by decide +kernel) (by decide +kernel)⟩
def MX11_enters : MT := (yX11_enters, cX11_enters, 3, none, 1, 24)
theorem oX11_enters : gt_MO MX11_enters 2 := ⟨mem_gw 1132 (by decide +kernel) (by decide +kernel), ini_RX11, (by decide +kernel)⟩
theorem iX11_enters : gt_IO MX11_enters := ⟨mem_gw 1131 (by decide +kernel) (by decide +kernel), mem_gw 43 (by decide +kernel) (by decide +kernel)⟩
def MX11_feed : MT := (yX11_feed, cX11_feed, 2, some .int, 1, 25)
theorem oX11_feed : gt_MO MX11_feed 1 := ⟨mem_gw 1030 (by decide +kernel) (by decide +kernel), ini_RX11, (by decide +kernel)⟩
theorem iX11_feed : gt_IO MX11_feed := ⟨mem_gw 1028 (by decide +kernel) (by decide +kernel), mem_gw 1029 (by decide +kernel) (by decide +kernel)⟩
def MX11_field : MT := (yX11_field, cX11_field, 4, some .int, 0, 0)
theorem oX11_field : gt_MO MX11_field 3 := ⟨mem_gw 1092 (by decide +kernel) (by decide +kernel), ini_RX11, (by decide +kernel)⟩
theorem iX11_field : gt_IO MX11_field := ⟨mem_gw 1091 (by decide +kernel) (by decide +kernel), mem_gw 34 (by decide +kernel) (by decide +kernel)⟩
def MX11_finds : MT := (yX11_finds, cX11_finds, 5, none, 1, 25)
theorem oX11_finds : gt_MO MX11_finds 2 := ⟨mem_gw 1214 (by decide +kernel) (by decide +kernel), ini_RX11, (by decide +kernel)⟩
theorem iX11_finds : gt_IO MX11_finds := ⟨mem_gw 1213 (by decide +kernel) (by decide +kernel), mem_gw 53 (by decide +kernel) (by decide +kernel)⟩
def MX11_findsAll : MT := (yX11_findsAll, cX11_findsAll, 3, none, 4, 100)
theorem oX11_findsAll : gt_MO MX11_findsAll 0 := ⟨mem_gw 1210 (by decide +kernel) (by decide +kernel), ini_RX11, (by decide +kernel)⟩
theorem iX11_findsAll : gt_IO MX11_findsAll := ⟨mem_gw 1209 (by decide +kernel) (by decide +kernel), mem_gw 52 (by decide +kernel) (by decide +kernel)⟩
def MX11_firstFailing : MT := (yX11_firstFailing, cX11_firstFailing, 2, some .int, 1, 27)
theorem oX11_firstFailing : gt_MO MX11_firstFailing 0 := ⟨mem_gw 1234 (by decide +kernel) (by decide +kernel), ini_RX11, (by decide +kernel)⟩
theorem iX11_firstFailing : gt_IO MX11_firstFailing := ⟨mem_gw 1233 (by decide +kernel) (by decide +kernel), mem_gw 58 (by decide +kernel) (by decide +kernel)⟩
def MX11_firstSticking : MT := (yX11_firstSticking, cX11_firstSticking, 2, some .int, 2, 47)
theorem oX11_firstSticking : gt_MO MX11_firstSticking 0 := ⟨mem_gw 1230 (by decide +kernel) (by decide +kernel), ini_RX11, (by decide +kernel)⟩
theorem iX11_firstSticking : gt_IO MX11_firstSticking := ⟨mem_gw 1229 (by decide +kernel) (by decide +kernel), mem_gw 57 (by decide +kernel) (by decide +kernel)⟩
def MX11_follow : MT := (yX11_follow, cX11_follow, 5, some .int, 5, 122)
theorem oX11_follow : gt_MO MX11_follow 3 := ⟨mem_gw 1153 (by decide +kernel) (by decide +kernel), ini_RX11, (by decide +kernel)⟩
theorem iX11_follow : gt_IO MX11_follow := ⟨mem_gw 1151 (by decide +kernel) (by decide +kernel), mem_gw 1152 (by decide +kernel) (by decide +kernel)⟩
def MX11_found : MT := (yX11_found, cX11_found, 3, some .int, 5, 122)
theorem oX11_found : gt_MO MX11_found 1 := ⟨mem_gw 1205 (by decide +kernel) (by decide +kernel), ini_RX11, (by decide +kernel)⟩
theorem iX11_found : gt_IO MX11_found := ⟨mem_gw 1203 (by decide +kernel) (by decide +kernel), mem_gw 1204 (by decide +kernel) (by decide +kernel)⟩
def MX11_frees : MT := (yX11_frees, cX11_frees, 3, none, 1, 25)
theorem oX11_frees : gt_MO MX11_frees 1 := ⟨mem_gw 1120 (by decide +kernel) (by decide +kernel), ini_RX11, (by decide +kernel)⟩
theorem iX11_frees : gt_IO MX11_frees := ⟨mem_gw 1119 (by decide +kernel) (by decide +kernel), mem_gw 40 (by decide +kernel) (by decide +kernel)⟩
def MX11_gate : MT := (yX11_gate, cX11_gate, 3, some .int, 2, 45)
theorem oX11_gate : gt_MO MX11_gate 2 := ⟨mem_gw 1172 (by decide +kernel) (by decide +kernel), ini_RX11, (by decide +kernel)⟩
theorem iX11_gate : gt_IO MX11_gate := ⟨mem_gw 1170 (by decide +kernel) (by decide +kernel), mem_gw 1171 (by decide +kernel) (by decide +kernel)⟩
def MX11_get : MT := (yX11_get, cX11_get, 3, some .int, 2, 45)
theorem oX11_get : gt_MO MX11_get 2 := ⟨mem_gw 1309 (by decide +kernel) (by decide +kernel), ini_RX11, (by decide +kernel)⟩
theorem iX11_get : gt_IO MX11_get := ⟨mem_gw 1307 (by decide +kernel) (by decide +kernel), mem_gw 1308 (by decide +kernel) (by decide +kernel)⟩
def MX11_goal : MT := (yX11_goal, cX11_goal, 2, some .int, 5, 122)
theorem oX11_goal : gt_MO MX11_goal 1 := ⟨mem_gw 1262 (by decide +kernel) (by decide +kernel), ini_RX11, (by decide +kernel)⟩
theorem iX11_goal : gt_IO MX11_goal := ⟨mem_gw 1261 (by decide +kernel) (by decide +kernel), mem_gw 64 (by decide +kernel) (by decide +kernel)⟩
def MX11_has : MT := (yX11_has, cX11_has, 2, some .boolean, 0, 0)
theorem oX11_has : gt_MO MX11_has 2 := ⟨mem_gw 1285 (by decide +kernel) (by decide +kernel), ini_RX11, (by decide +kernel)⟩
theorem sX11_has : Cond.static (gt_y MX11_has) ∈ gw := mem_gw 1284 (by decide +kernel) (by decide +kernel)
def MX11_here : MT := (yX11_here, cX11_here, 1, some .int, 0, 0)
theorem oX11_here : gt_MO MX11_here 0 := ⟨mem_gw 1055 (by decide +kernel) (by decide +kernel), ini_RX11, (by decide +kernel)⟩
theorem iX11_here : gt_IO MX11_here := ⟨mem_gw 1054 (by decide +kernel) (by decide +kernel), mem_gw 28 (by decide +kernel) (by decide +kernel)⟩
def MX11_holds : MT := (yX11_holds, cX11_holds, 1, some .int, 1, 27)
theorem oX11_holds : gt_MO MX11_holds 0 := ⟨mem_gw 1297 (by decide +kernel) (by decide +kernel), ini_RX11, (by decide +kernel)⟩
theorem iX11_holds : gt_IO MX11_holds := ⟨mem_gw 1295 (by decide +kernel) (by decide +kernel), mem_gw 1296 (by decide +kernel) (by decide +kernel)⟩
def MX11_image : MT := (yX11_image, cX11_image, 1, some .int, 1, 25)
theorem oX11_image : gt_MO MX11_image 0 := ⟨mem_gw 1314 (by decide +kernel) (by decide +kernel), ini_RX11, (by decide +kernel)⟩
theorem iX11_image : gt_IO MX11_image := ⟨mem_gw 1312 (by decide +kernel) (by decide +kernel), mem_gw 1313 (by decide +kernel) (by decide +kernel)⟩
def MX11_in : MT := (yX11_in, cX11_in, 6, some .boolean, 0, 0)
theorem oX11_in : gt_MO MX11_in 3 := ⟨mem_gw 1012 (by decide +kernel) (by decide +kernel), ini_RX11, (by decide +kernel)⟩
theorem sX11_in : Cond.static (gt_y MX11_in) ∈ gw := mem_gw 1011 (by decide +kernel) (by decide +kernel)
def MX11_init : MT := (yX11_init, cX11_init, 1, none, 1, 20)
theorem oX11_init : gt_MO MX11_init 0 := ⟨mem_gw 904 (by decide +kernel) (by decide +kernel), ini_RX11, (by decide +kernel)⟩
theorem nX11_init : Cond.instanceMethod (gt_y MX11_init) ∈ gw := mem_gw 903 (by decide +kernel) (by decide +kernel)
def MX11_isCell : MT := (yX11_isCell, cX11_isCell, 1, some .boolean, 1, 25)
theorem oX11_isCell : gt_MO MX11_isCell 1 := ⟨mem_gw 1019 (by decide +kernel) (by decide +kernel), ini_RX11, (by decide +kernel)⟩
theorem sX11_isCell : Cond.static (gt_y MX11_isCell) ∈ gw := mem_gw 1018 (by decide +kernel) (by decide +kernel)
def MX11_isLike : MT := (yX11_isLike, cX11_isLike, 4, some .boolean, 0, 0)
theorem oX11_isLike : gt_MO MX11_isLike 1 := ⟨mem_gw 1218 (by decide +kernel) (by decide +kernel), ini_RX11, (by decide +kernel)⟩
theorem iX11_isLike : gt_IO MX11_isLike := ⟨mem_gw 1217 (by decide +kernel) (by decide +kernel), mem_gw 54 (by decide +kernel) (by decide +kernel)⟩
def MX11_isList : MT := (yX11_isList, cX11_isList, 1, some .boolean, 1, 25)
theorem oX11_isList : gt_MO MX11_isList 1 := ⟨mem_gw 1156 (by decide +kernel) (by decide +kernel), ini_RX11, (by decide +kernel)⟩
theorem sX11_isList : Cond.static (gt_y MX11_isList) ∈ gw := mem_gw 1155 (by decide +kernel) (by decide +kernel)
def MX11_isMonitor : MT := (yX11_isMonitor, cX11_isMonitor, 1, some .boolean, 1, 25)
theorem oX11_isMonitor : gt_MO MX11_isMonitor 1 := ⟨mem_gw 1008 (by decide +kernel) (by decide +kernel), ini_RX11, (by decide +kernel)⟩
theorem sX11_isMonitor : Cond.static (gt_y MX11_isMonitor) ∈ gw := mem_gw 1007 (by decide +kernel) (by decide +kernel)
def MX11_isNested : MT := (yX11_isNested, cX11_isNested, 4, some .boolean, 0, 0)
theorem oX11_isNested : gt_MO MX11_isNested 0 := ⟨mem_gw 1254 (by decide +kernel) (by decide +kernel), ini_RX11, (by decide +kernel)⟩
theorem iX11_isNested : gt_IO MX11_isNested := ⟨mem_gw 1253 (by decide +kernel) (by decide +kernel), mem_gw 63 (by decide +kernel) (by decide +kernel)⟩
def MX11_isOutcome : MT := (yX11_isOutcome, cX11_isOutcome, 4, some .boolean, 2, 47)
theorem oX11_isOutcome : gt_MO MX11_isOutcome 1 := ⟨mem_gw 1246 (by decide +kernel) (by decide +kernel), ini_RX11, (by decide +kernel)⟩
theorem iX11_isOutcome : gt_IO MX11_isOutcome := ⟨mem_gw 1245 (by decide +kernel) (by decide +kernel), mem_gw 61 (by decide +kernel) (by decide +kernel)⟩
def MX11_isOver : MT := (yX11_isOver, cX11_isOver, 3, some .boolean, 1, 25)
theorem oX11_isOver : gt_MO MX11_isOver 2 := ⟨mem_gw 1197 (by decide +kernel) (by decide +kernel), ini_RX11, (by decide +kernel)⟩
theorem iX11_isOver : gt_IO MX11_isOver := ⟨mem_gw 1196 (by decide +kernel) (by decide +kernel), mem_gw 51 (by decide +kernel) (by decide +kernel)⟩
def MX11_isOwner : MT := (yX11_isOwner, cX11_isOwner, 3, some .boolean, 0, 0)
theorem oX11_isOwner : gt_MO MX11_isOwner 2 := ⟨mem_gw 1116 (by decide +kernel) (by decide +kernel), ini_RX11, (by decide +kernel)⟩
theorem iX11_isOwner : gt_IO MX11_isOwner := ⟨mem_gw 1115 (by decide +kernel) (by decide +kernel), mem_gw 39 (by decide +kernel) (by decide +kernel)⟩
def MX11_isReady : MT := (yX11_isReady, cX11_isReady, 2, some .boolean, 2, 46)
theorem oX11_isReady : gt_MO MX11_isReady 1 := ⟨mem_gw 1100 (by decide +kernel) (by decide +kernel), ini_RX11, (by decide +kernel)⟩
theorem iX11_isReady : gt_IO MX11_isReady := ⟨mem_gw 1099 (by decide +kernel) (by decide +kernel), mem_gw 35 (by decide +kernel) (by decide +kernel)⟩
def MX11_isTask : MT := (yX11_isTask, cX11_isTask, 2, some .boolean, 1, 25)
theorem oX11_isTask : gt_MO MX11_isTask 1 := ⟨mem_gw 1043 (by decide +kernel) (by decide +kernel), ini_RX11, (by decide +kernel)⟩
theorem iX11_isTask : gt_IO MX11_isTask := ⟨mem_gw 1042 (by decide +kernel) (by decide +kernel), mem_gw 25 (by decide +kernel) (by decide +kernel)⟩
def MX11_isWord : MT := (yX11_isWord, cX11_isWord, 5, some .boolean, 0, 0)
theorem oX11_isWord : gt_MO MX11_isWord 2 := ⟨mem_gw 1061 (by decide +kernel) (by decide +kernel), ini_RX11, (by decide +kernel)⟩
theorem iX11_isWord : gt_IO MX11_isWord := ⟨mem_gw 1060 (by decide +kernel) (by decide +kernel), mem_gw 29 (by decide +kernel) (by decide +kernel)⟩
def MX11_lay : MT := (yX11_lay, cX11_lay, 6, some .int, 6, 143)
theorem oX11_lay : gt_MO MX11_lay 3 := ⟨mem_gw 1270 (by decide +kernel) (by decide +kernel), ini_RX11, (by decide +kernel)⟩
theorem iX11_lay : gt_IO MX11_lay := ⟨mem_gw 1268 (by decide +kernel) (by decide +kernel), mem_gw 1269 (by decide +kernel) (by decide +kernel)⟩
def MX11_leaves : MT := (yX11_leaves, cX11_leaves, 6, some .int, 0, 0)
theorem oX11_leaves : gt_MO MX11_leaves 3 := ⟨mem_gw 1124 (by decide +kernel) (by decide +kernel), ini_RX11, (by decide +kernel)⟩
theorem iX11_leaves : gt_IO MX11_leaves := ⟨mem_gw 1123 (by decide +kernel) (by decide +kernel), mem_gw 41 (by decide +kernel) (by decide +kernel)⟩
def MX11_list : MT := (yX11_list, cX11_list, 4, some .int, 2, 45)
theorem oX11_list : gt_MO MX11_list 2 := ⟨mem_gw 1301 (by decide +kernel) (by decide +kernel), ini_RX11, (by decide +kernel)⟩
theorem iX11_list : gt_IO MX11_list := ⟨mem_gw 1299 (by decide +kernel) (by decide +kernel), mem_gw 1300 (by decide +kernel) (by decide +kernel)⟩
def MX11_manyOf : MT := (yX11_manyOf, cX11_manyOf, 4, some .int, 2, 47)
theorem oX11_manyOf : gt_MO MX11_manyOf 1 := ⟨mem_gw 1222 (by decide +kernel) (by decide +kernel), ini_RX11, (by decide +kernel)⟩
theorem iX11_manyOf : gt_IO MX11_manyOf := ⟨mem_gw 1221 (by decide +kernel) (by decide +kernel), mem_gw 55 (by decide +kernel) (by decide +kernel)⟩
def MX11_missing : MT := (yX11_missing, cX11_missing, 4, some .int, 2, 45)
theorem oX11_missing : gt_MO MX11_missing 2 := ⟨mem_gw 1005 (by decide +kernel) (by decide +kernel), ini_RX11, (by decide +kernel)⟩
theorem iX11_missing : gt_IO MX11_missing := ⟨mem_gw 1003 (by decide +kernel) (by decide +kernel), mem_gw 1004 (by decide +kernel) (by decide +kernel)⟩
def MX11_monitors : MT := (yX11_monitors, cX11_monitors, 4, none, 2, 50)
theorem oX11_monitors : gt_MO MX11_monitors 3 := ⟨mem_gw 1128 (by decide +kernel) (by decide +kernel), ini_RX11, (by decide +kernel)⟩
theorem iX11_monitors : gt_IO MX11_monitors := ⟨mem_gw 1127 (by decide +kernel) (by decide +kernel), mem_gw 42 (by decide +kernel) (by decide +kernel)⟩
def MX11_must : MT := (yX11_must, cX11_must, 3, none, 0, 0)
theorem oX11_must : gt_MO MX11_must 2 := ⟨mem_gw 1065 (by decide +kernel) (by decide +kernel), ini_RX11, (by decide +kernel)⟩
theorem iX11_must : gt_IO MX11_must := ⟨mem_gw 1064 (by decide +kernel) (by decide +kernel), mem_gw 30 (by decide +kernel) (by decide +kernel)⟩
def MX11_notifies : MT := (yX11_notifies, cX11_notifies, 6, none, 1, 25)
theorem oX11_notifies : gt_MO MX11_notifies 2 := ⟨mem_gw 1140 (by decide +kernel) (by decide +kernel), ini_RX11, (by decide +kernel)⟩
theorem iX11_notifies : gt_IO MX11_notifies := ⟨mem_gw 1139 (by decide +kernel) (by decide +kernel), mem_gw 45 (by decide +kernel) (by decide +kernel)⟩
def MX11_number : MT := (yX11_number, cX11_number, 8, some .int, 2, 43)
theorem oX11_number : gt_MO MX11_number 3 := ⟨mem_gw 1069 (by decide +kernel) (by decide +kernel), ini_RX11, (by decide +kernel)⟩
theorem iX11_number : gt_IO MX11_number := ⟨mem_gw 1068 (by decide +kernel) (by decide +kernel), mem_gw 31 (by decide +kernel) (by decide +kernel)⟩
def MX11_of : MT := (yX11_of, cX11_of, 3, some .int, 2, 46)
theorem oX11_of : gt_MO MX11_of 2 := ⟨mem_gw 1160 (by decide +kernel) (by decide +kernel), ini_RX11, (by decide +kernel)⟩
theorem iX11_of : gt_IO MX11_of := ⟨mem_gw 1158 (by decide +kernel) (by decide +kernel), mem_gw 1159 (by decide +kernel) (by decide +kernel)⟩
def MX11_onWay : MT := (yX11_onWay, cX11_onWay, 4, some .int, 0, 0)
theorem oX11_onWay : gt_MO MX11_onWay 2 := ⟨mem_gw 1266 (by decide +kernel) (by decide +kernel), ini_RX11, (by decide +kernel)⟩
theorem iX11_onWay : gt_IO MX11_onWay := ⟨mem_gw 1265 (by decide +kernel) (by decide +kernel), mem_gw 65 (by decide +kernel) (by decide +kernel)⟩
def MX11_outcome : MT := (yX11_outcome, cX11_outcome, 4, some .int, 5, 122)
theorem oX11_outcome : gt_MO MX11_outcome 2 := ⟨mem_gw 1274 (by decide +kernel) (by decide +kernel), ini_RX11, (by decide +kernel)⟩
theorem iX11_outcome : gt_IO MX11_outcome := ⟨mem_gw 1272 (by decide +kernel) (by decide +kernel), mem_gw 1273 (by decide +kernel) (by decide +kernel)⟩
def MX11_outcomeAt : MT := (yX11_outcomeAt, cX11_outcomeAt, 4, some .int, 3, 70)
theorem oX11_outcomeAt : gt_MO MX11_outcomeAt 1 := ⟨mem_gw 1242 (by decide +kernel) (by decide +kernel), ini_RX11, (by decide +kernel)⟩
theorem iX11_outcomeAt : gt_IO MX11_outcomeAt := ⟨mem_gw 1241 (by decide +kernel) (by decide +kernel), mem_gw 60 (by decide +kernel) (by decide +kernel)⟩
def MX11_ownedBy : MT := (yX11_ownedBy, cX11_ownedBy, 6, some .int, 0, 0)
theorem oX11_ownedBy : gt_MO MX11_ownedBy 3 := ⟨mem_gw 1168 (by decide +kernel) (by decide +kernel), ini_RX11, (by decide +kernel)⟩
theorem iX11_ownedBy : gt_IO MX11_ownedBy := ⟨mem_gw 1167 (by decide +kernel) (by decide +kernel), mem_gw 48 (by decide +kernel) (by decide +kernel)⟩
def MX11_program : MT := (yX11_program, cX11_program, 3, some .int, 4, 95)
theorem oX11_program : gt_MO MX11_program 1 := ⟨mem_gw 1039 (by decide +kernel) (by decide +kernel), ini_RX11, (by decide +kernel)⟩
theorem iX11_program : gt_IO MX11_program := ⟨mem_gw 1037 (by decide +kernel) (by decide +kernel), mem_gw 1038 (by decide +kernel) (by decide +kernel)⟩
def MX11_put : MT := (yX11_put, cX11_put, 4, some .int, 2, 45)
theorem oX11_put : gt_MO MX11_put 2 := ⟨mem_gw 1016 (by decide +kernel) (by decide +kernel), ini_RX11, (by decide +kernel)⟩
theorem iX11_put : gt_IO MX11_put := ⟨mem_gw 1014 (by decide +kernel) (by decide +kernel), mem_gw 1015 (by decide +kernel) (by decide +kernel)⟩
def MX11_restart : MT := (yX11_restart, cX11_restart, 2, some .int, 0, 0)
theorem oX11_restart : gt_MO MX11_restart 0 := ⟨mem_gw 1001 (by decide +kernel) (by decide +kernel), ini_RX11, (by decide +kernel)⟩
theorem iX11_restart : gt_IO MX11_restart := ⟨mem_gw 999 (by decide +kernel) (by decide +kernel), mem_gw 1000 (by decide +kernel) (by decide +kernel)⟩
def MX11_round : MT := (yX11_round, cX11_round, 6, some .int, 5, 122)
theorem oX11_round : gt_MO MX11_round 0 := ⟨mem_gw 1289 (by decide +kernel) (by decide +kernel), ini_RX11, (by decide +kernel)⟩
theorem iX11_round : gt_IO MX11_round := ⟨mem_gw 1287 (by decide +kernel) (by decide +kernel), mem_gw 1288 (by decide +kernel) (by decide +kernel)⟩
def MX11_run : MT := (yX11_run, cX11_run, 4, some .int, 5, 122)
theorem oX11_run : gt_MO MX11_run 2 := ⟨mem_gw 1144 (by decide +kernel) (by decide +kernel), ini_RX11, (by decide +kernel)⟩
theorem iX11_run : gt_IO MX11_run := ⟨mem_gw 1142 (by decide +kernel) (by decide +kernel), mem_gw 1143 (by decide +kernel) (by decide +kernel)⟩
def MX11_schedule : MT := (yX11_schedule, cX11_schedule, 4, some .int, 6, 143)
theorem oX11_schedule : gt_MO MX11_schedule 2 := ⟨mem_gw 1258 (by decide +kernel) (by decide +kernel), ini_RX11, (by decide +kernel)⟩
theorem iX11_schedule : gt_IO MX11_schedule := ⟨mem_gw 1256 (by decide +kernel) (by decide +kernel), mem_gw 1257 (by decide +kernel) (by decide +kernel)⟩
def MX11_set : MT := (yX11_set, cX11_set, 4, some .int, 2, 45)
theorem oX11_set : gt_MO MX11_set 3 := ⟨mem_gw 1305 (by decide +kernel) (by decide +kernel), ini_RX11, (by decide +kernel)⟩
theorem iX11_set : gt_IO MX11_set := ⟨mem_gw 1303 (by decide +kernel) (by decide +kernel), mem_gw 1304 (by decide +kernel) (by decide +kernel)⟩
def MX11_stands : MT := (yX11_stands, cX11_stands, 4, some .int, 2, 45)
theorem oX11_stands : gt_MO MX11_stands 3 := ⟨mem_gw 1176 (by decide +kernel) (by decide +kernel), ini_RX11, (by decide +kernel)⟩
theorem iX11_stands : gt_IO MX11_stands := ⟨mem_gw 1174 (by decide +kernel) (by decide +kernel), mem_gw 1175 (by decide +kernel) (by decide +kernel)⟩
def MX11_standsAt : MT := (yX11_standsAt, cX11_standsAt, 6, some .int, 0, 0)
theorem oX11_standsAt : gt_MO MX11_standsAt 1 := ⟨mem_gw 1164 (by decide +kernel) (by decide +kernel), ini_RX11, (by decide +kernel)⟩
theorem iX11_standsAt : gt_IO MX11_standsAt := ⟨mem_gw 1163 (by decide +kernel) (by decide +kernel), mem_gw 47 (by decide +kernel) (by decide +kernel)⟩
def MX11_statement : MT := (yX11_statement, cX11_statement, 4, some .int, 2, 46)
theorem oX11_statement : gt_MO MX11_statement 3 := ⟨mem_gw 1088 (by decide +kernel) (by decide +kernel), ini_RX11, (by decide +kernel)⟩
theorem iX11_statement : gt_IO MX11_statement := ⟨mem_gw 1086 (by decide +kernel) (by decide +kernel), mem_gw 1087 (by decide +kernel) (by decide +kernel)⟩
def MX11_statement1 : MT := (yX11_statement1, cX11_statement1, 6, none, 3, 70)
theorem oX11_statement1 : gt_MO MX11_statement1 1 := ⟨mem_gw 1047 (by decide +kernel) (by decide +kernel), ini_RX11, (by decide +kernel)⟩
theorem iX11_statement1 : gt_IO MX11_statement1 := ⟨mem_gw 1046 (by decide +kernel) (by decide +kernel), mem_gw 26 (by decide +kernel) (by decide +kernel)⟩
def MX11_step : MT := (yX11_step, cX11_step, 2, some .int, 5, 122)
theorem oX11_step : gt_MO MX11_step 1 := ⟨mem_gw 1096 (by decide +kernel) (by decide +kernel), ini_RX11, (by decide +kernel)⟩
theorem iX11_step : gt_IO MX11_step := ⟨mem_gw 1094 (by decide +kernel) (by decide +kernel), mem_gw 1095 (by decide +kernel) (by decide +kernel)⟩
def MX11_steps : MT := (yX11_steps, cX11_steps, 8, none, 3, 73)
theorem oX11_steps : gt_MO MX11_steps 1 := ⟨mem_gw 1108 (by decide +kernel) (by decide +kernel), ini_RX11, (by decide +kernel)⟩
theorem iX11_steps : gt_IO MX11_steps := ⟨mem_gw 1107 (by decide +kernel) (by decide +kernel), mem_gw 37 (by decide +kernel) (by decide +kernel)⟩
def MX11_stepsTruly : MT := (yX11_stepsTruly, cX11_stepsTruly, 3, none, 4, 100)
theorem oX11_stepsTruly : gt_MO MX11_stepsTruly 1 := ⟨mem_gw 1104 (by decide +kernel) (by decide +kernel), ini_RX11, (by decide +kernel)⟩
theorem iX11_stepsTruly : gt_IO MX11_stepsTruly := ⟨mem_gw 1103 (by decide +kernel) (by decide +kernel), mem_gw 36 (by decide +kernel) (by decide +kernel)⟩
def MX11_sticks : MT := (yX11_sticks, cX11_sticks, 3, some .boolean, 1, 25)
theorem oX11_sticks : gt_MO MX11_sticks 2 := ⟨mem_gw 1193 (by decide +kernel) (by decide +kernel), ini_RX11, (by decide +kernel)⟩
theorem iX11_sticks : gt_IO MX11_sticks := ⟨mem_gw 1192 (by decide +kernel) (by decide +kernel), mem_gw 50 (by decide +kernel) (by decide +kernel)⟩
def MX11_takes : MT := (yX11_takes, cX11_takes, 2, none, 1, 22)
theorem oX11_takes : gt_MO MX11_takes 1 := ⟨mem_gw 1073 (by decide +kernel) (by decide +kernel), ini_RX11, (by decide +kernel)⟩
theorem iX11_takes : gt_IO MX11_takes := ⟨mem_gw 1072 (by decide +kernel) (by decide +kernel), mem_gw 32 (by decide +kernel) (by decide +kernel)⟩
def MX11_task : MT := (yX11_task, cX11_task, 1, some .int, 0, 0)
theorem oX11_task : gt_MO MX11_task 0 := ⟨mem_gw 997 (by decide +kernel) (by decide +kernel), ini_RX11, (by decide +kernel)⟩
theorem iX11_task : gt_IO MX11_task := ⟨mem_gw 995 (by decide +kernel) (by decide +kernel), mem_gw 996 (by decide +kernel) (by decide +kernel)⟩
def MX11_tells : MT := (yX11_tells, cX11_tells, 6, none, 0, 0)
theorem oX11_tells : gt_MO MX11_tells 5 := ⟨mem_gw 1081 (by decide +kernel) (by decide +kernel), ini_RX11, (by decide +kernel)⟩
theorem iX11_tells : gt_IO MX11_tells := ⟨mem_gw 1080 (by decide +kernel) (by decide +kernel), mem_gw 33 (by decide +kernel) (by decide +kernel)⟩
def MX11_told : MT := (yX11_told, cX11_told, 2, some .int, 2, 47)
theorem oX11_told : gt_MO MX11_told 1 := ⟨mem_gw 1189 (by decide +kernel) (by decide +kernel), ini_RX11, (by decide +kernel)⟩
theorem iX11_told : gt_IO MX11_told := ⟨mem_gw 1187 (by decide +kernel) (by decide +kernel), mem_gw 1188 (by decide +kernel) (by decide +kernel)⟩
def MX11_under : MT := (yX11_under, cX11_under, 2, some .int, 5, 122)
theorem oX11_under : gt_MO MX11_under 1 := ⟨mem_gw 1278 (by decide +kernel) (by decide +kernel), ini_RX11, (by decide +kernel)⟩
theorem iX11_under : gt_IO MX11_under := ⟨mem_gw 1276 (by decide +kernel) (by decide +kernel), mem_gw 1277 (by decide +kernel) (by decide +kernel)⟩
def MX11_underIn : MT := (yX11_underIn, cX11_underIn, 9, some .int, 1, 25)
theorem oX11_underIn : gt_MO MX11_underIn 1 := ⟨mem_gw 1282 (by decide +kernel) (by decide +kernel), ini_RX11, (by decide +kernel)⟩
theorem iX11_underIn : gt_IO MX11_underIn := ⟨mem_gw 1281 (by decide +kernel) (by decide +kernel), mem_gw 66 (by decide +kernel) (by decide +kernel)⟩
def MX11_word : MT := (yX11_word, cX11_word, 4, some .int, 1, 25)
theorem oX11_word : gt_MO MX11_word 0 := ⟨mem_gw 1051 (by decide +kernel) (by decide +kernel), ini_RX11, (by decide +kernel)⟩
theorem iX11_word : gt_IO MX11_word := ⟨mem_gw 1050 (by decide +kernel) (by decide +kernel), mem_gw 27 (by decide +kernel) (by decide +kernel)⟩
def MX1_aboutToEnter : MT := (yX1_aboutToEnter, cX1_aboutToEnter, 4, some .int, 1, 22)
theorem oX1_aboutToEnter : gt_MO MX1_aboutToEnter 1 := ⟨mem_gw 803 (by decide +kernel) (by decide +kernel), ini_RX1, (by decide +kernel)⟩
theorem iX1_aboutToEnter : gt_IO MX1_aboutToEnter := ⟨mem_gw 801 (by decide +kernel) (by decide +kernel), mem_gw 802 (by decide +kernel) (by decide +kernel)⟩
def MX1_allThatAre : MT := (yX1_allThatAre, cX1_allThatAre, 4, some .int, 0, 0)
theorem oX1_allThatAre : gt_MO MX1_allThatAre 1 := ⟨mem_gw 708 (by decide +kernel) (by decide +kernel), ini_RX1, (by decide +kernel)⟩
theorem iX1_allThatAre : gt_IO MX1_allThatAre := ⟨mem_gw 706 (by decide +kernel) (by decide +kernel), mem_gw 707 (by decide +kernel) (by decide +kernel)⟩
def MX1_chosenBy : MT := (yX1_chosenBy, cX1_chosenBy, 4, some .int, 0, 0)
theorem oX1_chosenBy : gt_MO MX1_chosenBy 1 := ⟨mem_gw 662 (by decide +kernel) (by decide +kernel), ini_RX1, (by decide +kernel)⟩
theorem iX1_chosenBy : gt_IO MX1_chosenBy := ⟨mem_gw 660 (by decide +kernel) (by decide +kernel), mem_gw 661 (by decide +kernel) (by decide +kernel)⟩
def MX1_copyFrom : MT := (yX1_copyFrom, cX1_copyFrom, 3, none, 2, 47)
theorem oX1_copyFrom : gt_MO MX1_copyFrom 1 := ⟨mem_gw 745 (by decide +kernel) (by decide +kernel), ini_RX1, (by decide +kernel)⟩
theorem iX1_copyFrom : gt_IO MX1_copyFrom := ⟨mem_gw 743 (by decide +kernel) (by decide +kernel), mem_gw 744 (by decide +kernel) (by decide +kernel)⟩
def MX1_doAtMonitor : MT := (yX1_doAtMonitor, cX1_doAtMonitor, 4, some .int, 2, 46)
theorem oX1_doAtMonitor : gt_MO MX1_doAtMonitor 3 := ⟨mem_gw 631 (by decide +kernel) (by decide +kernel), ini_RX1, (by decide +kernel)⟩
theorem iX1_doAtMonitor : gt_IO MX1_doAtMonitor := ⟨mem_gw 630 (by decide +kernel) (by decide +kernel), mem_gw 14 (by decide +kernel) (by decide +kernel)⟩
def MX1_doWithCells : MT := (yX1_doWithCells, cX1_doWithCells, 6, some .int, 1, 22)
theorem oX1_doWithCells : gt_MO MX1_doWithCells 3 := ⟨mem_gw 646 (by decide +kernel) (by decide +kernel), ini_RX1, (by decide +kernel)⟩
theorem iX1_doWithCells : gt_IO MX1_doWithCells := ⟨mem_gw 645 (by decide +kernel) (by decide +kernel), mem_gw 17 (by decide +kernel) (by decide +kernel)⟩
def MX1_end : MT := (yX1_end, cX1_end, 5, none, 2, 43)
theorem oX1_end : gt_MO MX1_end 2 := ⟨mem_gw 616 (by decide +kernel) (by decide +kernel), ini_RX1, (by decide +kernel)⟩
theorem iX1_end : gt_IO MX1_end := ⟨mem_gw 615 (by decide +kernel) (by decide +kernel), mem_gw 12 (by decide +kernel) (by decide +kernel)⟩
def MX1_enter : MT := (yX1_enter, cX1_enter, 3, some .int, 1, 22)
theorem oX1_enter : gt_MO MX1_enter 2 := ⟨mem_gw 635 (by decide +kernel) (by decide +kernel), ini_RX1, (by decide +kernel)⟩
theorem iX1_enter : gt_IO MX1_enter := ⟨mem_gw 634 (by decide +kernel) (by decide +kernel), mem_gw 15 (by decide +kernel) (by decide +kernel)⟩
def MX1_forgetReasons : MT := (yX1_forgetReasons, cX1_forgetReasons, 1, none, 1, 23)
theorem oX1_forgetReasons : gt_MO MX1_forgetReasons 0 := ⟨mem_gw 420 (by decide +kernel) (by decide +kernel), ini_RX1, (by decide +kernel)⟩
theorem iX1_forgetReasons : gt_IO MX1_forgetReasons := ⟨mem_gw 418 (by decide +kernel) (by decide +kernel), mem_gw 419 (by decide +kernel) (by decide +kernel)⟩
def MX1_free : MT := (yX1_free, cX1_free, 3, none, 1, 21)
theorem oX1_free : gt_MO MX1_free 1 := ⟨mem_gw 620 (by decide +kernel) (by decide +kernel), ini_RX1, (by decide +kernel)⟩
theorem iX1_free : gt_IO MX1_free := ⟨mem_gw 619 (by decide +kernel) (by decide +kernel), mem_gw 13 (by decide +kernel) (by decide +kernel)⟩
def MX1_init : MT := (yX1_init, cX1_init, 2, none, 2, 40)
theorem oX1_init : gt_MO MX1_init 0 := ⟨mem_gw 99 (by decide +kernel) (by decide +kernel), ini_RX1, (by decide +kernel)⟩
theorem nX1_init : Cond.instanceMethod (gt_y MX1_init) ∈ gw := mem_gw 98 (by decide +kernel) (by decide +kernel)
def MX1_isOver : MT := (yX1_isOver, cX1_isOver, 1, some .boolean, 1, 23)
theorem oX1_isOver : gt_MO MX1_isOver 0 := ⟨mem_gw 721 (by decide +kernel) (by decide +kernel), ini_RX1, (by decide +kernel)⟩
theorem iX1_isOver : gt_IO MX1_isOver := ⟨mem_gw 719 (by decide +kernel) (by decide +kernel), mem_gw 720 (by decide +kernel) (by decide +kernel)⟩
def MX1_isUsed : MT := (yX1_isUsed, cX1_isUsed, 2, some .boolean, 0, 0)
theorem oX1_isUsed : gt_MO MX1_isUsed 1 := ⟨mem_gw 431 (by decide +kernel) (by decide +kernel), ini_RX1, (by decide +kernel)⟩
theorem iX1_isUsed : gt_IO MX1_isUsed := ⟨mem_gw 429 (by decide +kernel) (by decide +kernel), mem_gw 430 (by decide +kernel) (by decide +kernel)⟩
def MX1_newTask : MT := (yX1_newTask, cX1_newTask, 1, some .int, 0, 0)
theorem oX1_newTask : gt_MO MX1_newTask 0 := ⟨mem_gw 408 (by decide +kernel) (by decide +kernel), ini_RX1, (by decide +kernel)⟩
theorem iX1_newTask : gt_IO MX1_newTask := ⟨mem_gw 406 (by decide +kernel) (by decide +kernel), mem_gw 407 (by decide +kernel) (by decide +kernel)⟩
def MX1_ownedBy : MT := (yX1_ownedBy, cX1_ownedBy, 4, some .int, 0, 0)
theorem oX1_ownedBy : gt_MO MX1_ownedBy 1 := ⟨mem_gw 688 (by decide +kernel) (by decide +kernel), ini_RX1, (by decide +kernel)⟩
theorem iX1_ownedBy : gt_IO MX1_ownedBy := ⟨mem_gw 686 (by decide +kernel) (by decide +kernel), mem_gw 687 (by decide +kernel) (by decide +kernel)⟩
def MX1_startAgain : MT := (yX1_startAgain, cX1_startAgain, 1, none, 2, 43)
theorem oX1_startAgain : gt_MO MX1_startAgain 0 := ⟨mem_gw 416 (by decide +kernel) (by decide +kernel), ini_RX1, (by decide +kernel)⟩
theorem iX1_startAgain : gt_IO MX1_startAgain := ⟨mem_gw 414 (by decide +kernel) (by decide +kernel), mem_gw 415 (by decide +kernel) (by decide +kernel)⟩
def MX1_sticks : MT := (yX1_sticks, cX1_sticks, 1, some .boolean, 1, 23)
theorem oX1_sticks : gt_MO MX1_sticks 0 := ⟨mem_gw 716 (by decide +kernel) (by decide +kernel), ini_RX1, (by decide +kernel)⟩
theorem iX1_sticks : gt_IO MX1_sticks := ⟨mem_gw 714 (by decide +kernel) (by decide +kernel), mem_gw 715 (by decide +kernel) (by decide +kernel)⟩
def MX1_take : MT := (yX1_take, cX1_take, 5, none, 3, 69)
theorem oX1_take : gt_MO MX1_take 1 := ⟨mem_gw 612 (by decide +kernel) (by decide +kernel), ini_RX1, (by decide +kernel)⟩
theorem iX1_take : gt_IO MX1_take := ⟨mem_gw 610 (by decide +kernel) (by decide +kernel), mem_gw 611 (by decide +kernel) (by decide +kernel)⟩
def MX1_wake : MT := (yX1_wake, cX1_wake, 5, none, 1, 22)
theorem oX1_wake : gt_MO MX1_wake 2 := ⟨mem_gw 642 (by decide +kernel) (by decide +kernel), ini_RX1, (by decide +kernel)⟩
theorem iX1_wake : gt_IO MX1_wake := ⟨mem_gw 641 (by decide +kernel) (by decide +kernel), mem_gw 16 (by decide +kernel) (by decide +kernel)⟩
def MX1_whereStands : MT := (yX1_whereStands, cX1_whereStands, 3, some .int, 1, 22)
theorem oX1_whereStands : gt_MO MX1_whereStands 1 := ⟨mem_gw 681 (by decide +kernel) (by decide +kernel), ini_RX1, (by decide +kernel)⟩
theorem iX1_whereStands : gt_IO MX1_whereStands := ⟨mem_gw 679 (by decide +kernel) (by decide +kernel), mem_gw 680 (by decide +kernel) (by decide +kernel)⟩
def MX2_begin : MT := (yX2_begin, cX2_begin, 3, none, 1, 23)
theorem oX2_begin : gt_MO MX2_begin 2 := ⟨mem_gw 876 (by decide +kernel) (by decide +kernel), ini_RX2, (by decide +kernel)⟩
theorem iX2_begin : gt_IO MX2_begin := ⟨mem_gw 874 (by decide +kernel) (by decide +kernel), mem_gw 875 (by decide +kernel) (by decide +kernel)⟩
def MX2_hasPlace : MT := (yX2_hasPlace, cX2_hasPlace, 3, some .boolean, 0, 0)
theorem oX2_hasPlace : gt_MO MX2_hasPlace 2 := ⟨mem_gw 884 (by decide +kernel) (by decide +kernel), ini_RX2, (by decide +kernel)⟩
theorem iX2_hasPlace : gt_IO MX2_hasPlace := ⟨mem_gw 882 (by decide +kernel) (by decide +kernel), mem_gw 883 (by decide +kernel) (by decide +kernel)⟩
def MX2_init : MT := (yX2_init, cX2_init, 1, none, 1, 23)
theorem oX2_init : gt_MO MX2_init 0 := ⟨mem_gw 355 (by decide +kernel) (by decide +kernel), ini_RX2, (by decide +kernel)⟩
theorem nX2_init : Cond.instanceMethod (gt_y MX2_init) ∈ gw := mem_gw 354 (by decide +kernel) (by decide +kernel)
def MX2_refusalOf : MT := (yX2_refusalOf, cX2_refusalOf, 2, some .int, 1, 20)
theorem oX2_refusalOf : gt_MO MX2_refusalOf 1 := ⟨mem_gw 670 (by decide +kernel) (by decide +kernel), ini_RX2, (by decide +kernel)⟩
theorem iX2_refusalOf : gt_IO MX2_refusalOf := ⟨mem_gw 668 (by decide +kernel) (by decide +kernel), mem_gw 669 (by decide +kernel) (by decide +kernel)⟩
def MX3_append : MT := (yX3_append, cX3_append, 6, none, 0, 0)
theorem oX3_append : gt_MO MX3_append 4 := ⟨mem_gw 576 (by decide +kernel) (by decide +kernel), ini_RX3, (by decide +kernel)⟩
theorem iX3_append : gt_IO MX3_append := ⟨mem_gw 574 (by decide +kernel) (by decide +kernel), mem_gw 575 (by decide +kernel) (by decide +kernel)⟩
def MX3_copyFrom : MT := (yX3_copyFrom, cX3_copyFrom, 2, none, 1, 26)
theorem oX3_copyFrom : gt_MO MX3_copyFrom 1 := ⟨mem_gw 588 (by decide +kernel) (by decide +kernel), ini_RX3, (by decide +kernel)⟩
theorem iX3_copyFrom : gt_IO MX3_copyFrom := ⟨mem_gw 586 (by decide +kernel) (by decide +kernel), mem_gw 587 (by decide +kernel) (by decide +kernel)⟩
def MX3_init : MT := (yX3_init, cX3_init, 1, none, 1, 20)
theorem oX3_init : gt_MO MX3_init 0 := ⟨mem_gw 106 (by decide +kernel) (by decide +kernel), ini_RX3, (by decide +kernel)⟩
theorem nX3_init : Cond.instanceMethod (gt_y MX3_init) ∈ gw := mem_gw 105 (by decide +kernel) (by decide +kernel)
def MX3_part : MT := (yX3_part, cX3_part, 3, some .int, 0, 0)
theorem oX3_part : gt_MO MX3_part 2 := ⟨mem_gw 600 (by decide +kernel) (by decide +kernel), ini_RX3, (by decide +kernel)⟩
theorem iX3_part : gt_IO MX3_part := ⟨mem_gw 598 (by decide +kernel) (by decide +kernel), mem_gw 599 (by decide +kernel) (by decide +kernel)⟩
def MX4_allowed : MT := (yX4_allowed, cX4_allowed, 4, some .int, 0, 0)
theorem oX4_allowed : gt_MO MX4_allowed 3 := ⟨mem_gw 564 (by decide +kernel) (by decide +kernel), ini_RX4, (by decide +kernel)⟩
theorem iX4_allowed : gt_IO MX4_allowed := ⟨mem_gw 563 (by decide +kernel) (by decide +kernel), mem_gw 7 (by decide +kernel) (by decide +kernel)⟩
def MX4_init : MT := (yX4_init, cX4_init, 1, none, 2, 40)
theorem oX4_init : gt_MO MX4_init 0 := ⟨mem_gw 197 (by decide +kernel) (by decide +kernel), ini_RX4, (by decide +kernel)⟩
theorem nX4_init : Cond.instanceMethod (gt_y MX4_init) ∈ gw := mem_gw 196 (by decide +kernel) (by decide +kernel)
def MX4_isWord : MT := (yX4_isWord, cX4_isWord, 4, some .boolean, 5, 106)
theorem oX4_isWord : gt_MO MX4_isWord 2 := ⟨mem_gw 500 (by decide +kernel) (by decide +kernel), ini_RX4, (by decide +kernel)⟩
theorem iX4_isWord : gt_IO MX4_isWord := ⟨mem_gw 499 (by decide +kernel) (by decide +kernel), mem_gw 3 (by decide +kernel) (by decide +kernel)⟩
def MX4_read : MT := (yX4_read, cX4_read, 3, some .int, 8, 175)
theorem oX4_read : gt_MO MX4_read 0 := ⟨mem_gw 472 (by decide +kernel) (by decide +kernel), ini_RX4, (by decide +kernel)⟩
theorem iX4_read : gt_IO MX4_read := ⟨mem_gw 470 (by decide +kernel) (by decide +kernel), mem_gw 471 (by decide +kernel) (by decide +kernel)⟩
def MX4_readBlank : MT := (yX4_readBlank, cX4_readBlank, 1, none, 1, 21)
theorem oX4_readBlank : gt_MO MX4_readBlank 0 := ⟨mem_gw 556 (by decide +kernel) (by decide +kernel), ini_RX4, (by decide +kernel)⟩
theorem iX4_readBlank : gt_IO MX4_readBlank := ⟨mem_gw 555 (by decide +kernel) (by decide +kernel), mem_gw 5 (by decide +kernel) (by decide +kernel)⟩
def MX4_readFigureBelow : MT := (yX4_readFigureBelow, cX4_readFigureBelow, 3, some .int, 2, 45)
theorem oX4_readFigureBelow : gt_MO MX4_readFigureBelow 1 := ⟨mem_gw 568 (by decide +kernel) (by decide +kernel), ini_RX4, (by decide +kernel)⟩
theorem iX4_readFigureBelow : gt_IO MX4_readFigureBelow := ⟨mem_gw 567 (by decide +kernel) (by decide +kernel), mem_gw 8 (by decide +kernel) (by decide +kernel)⟩
def MX4_readNumber : MT := (yX4_readNumber, cX4_readNumber, 3, some .int, 2, 45)
theorem oX4_readNumber : gt_MO MX4_readNumber 0 := ⟨mem_gw 572 (by decide +kernel) (by decide +kernel), ini_RX4, (by decide +kernel)⟩
theorem iX4_readNumber : gt_IO MX4_readNumber := ⟨mem_gw 571 (by decide +kernel) (by decide +kernel), mem_gw 9 (by decide +kernel) (by decide +kernel)⟩
def MX4_readStatement : MT := (yX4_readStatement, cX4_readStatement, 5, none, 7, 151)
theorem oX4_readStatement : gt_MO MX4_readStatement 0 := ⟨mem_gw 476 (by decide +kernel) (by decide +kernel), ini_RX4, (by decide +kernel)⟩
theorem iX4_readStatement : gt_IO MX4_readStatement := ⟨mem_gw 475 (by decide +kernel) (by decide +kernel), mem_gw 1 (by decide +kernel) (by decide +kernel)⟩
def MX4_readTarget : MT := (yX4_readTarget, cX4_readTarget, 3, some .int, 2, 45)
theorem oX4_readTarget : gt_MO MX4_readTarget 0 := ⟨mem_gw 552 (by decide +kernel) (by decide +kernel), ini_RX4, (by decide +kernel)⟩
theorem iX4_readTarget : gt_IO MX4_readTarget := ⟨mem_gw 551 (by decide +kernel) (by decide +kernel), mem_gw 4 (by decide +kernel) (by decide +kernel)⟩
def MX4_readWord : MT := (yX4_readWord, cX4_readWord, 3, some .int, 6, 129)
theorem oX4_readWord : gt_MO MX4_readWord 0 := ⟨mem_gw 480 (by decide +kernel) (by decide +kernel), ini_RX4, (by decide +kernel)⟩
theorem iX4_readWord : gt_IO MX4_readWord := ⟨mem_gw 479 (by decide +kernel) (by decide +kernel), mem_gw 2 (by decide +kernel) (by decide +kernel)⟩
def MX4_takeFigures : MT := (yX4_takeFigures, cX4_takeFigures, 5, some .int, 1, 21)
theorem oX4_takeFigures : gt_MO MX4_takeFigures 1 := ⟨mem_gw 560 (by decide +kernel) (by decide +kernel), ini_RX4, (by decide +kernel)⟩
theorem iX4_takeFigures : gt_IO MX4_takeFigures := ⟨mem_gw 559 (by decide +kernel) (by decide +kernel), mem_gw 6 (by decide +kernel) (by decide +kernel)⟩
def MX4_wordOf : MT := (yX4_wordOf, cX4_wordOf, 1, some (.object "java/lang/String"), 0, 0)
theorem oX4_wordOf : gt_MO MX4_wordOf 1 := ⟨mem_gw 487 (by decide +kernel) (by decide +kernel), ini_RX4, (by decide +kernel)⟩
theorem sX4_wordOf : Cond.static (gt_y MX4_wordOf) ∈ gw := mem_gw 486 (by decide +kernel) (by decide +kernel)
def MX5_at : MT := (yX5_at, cX5_at, 2, some .int, 0, 0)
theorem oX5_at : gt_MO MX5_at 2 := ⟨mem_gw 623 (by decide +kernel) (by decide +kernel), ini_RX5, (by decide +kernel)⟩
theorem sX5_at : Cond.static (gt_y MX5_at) ∈ gw := mem_gw 622 (by decide +kernel) (by decide +kernel)
def MX5_has : MT := (yX5_has, cX5_has, 3, some .boolean, 0, 0)
theorem oX5_has : gt_MO MX5_has 2 := ⟨mem_gw 684 (by decide +kernel) (by decide +kernel), ini_RX5, (by decide +kernel)⟩
theorem sX5_has : Cond.static (gt_y MX5_has) ∈ gw := mem_gw 683 (by decide +kernel) (by decide +kernel)
def MX5_length : MT := (yX5_length, cX5_length, 3, some .int, 0, 0)
theorem oX5_length : gt_MO MX5_length 1 := ⟨mem_gw 695 (by decide +kernel) (by decide +kernel), ini_RX5, (by decide +kernel)⟩
theorem sX5_length : Cond.static (gt_y MX5_length) ∈ gw := mem_gw 694 (by decide +kernel) (by decide +kernel)
def MX5_withLast : MT := (yX5_withLast, cX5_withLast, 3, some .int, 0, 0)
theorem oX5_withLast : gt_MO MX5_withLast 2 := ⟨mem_gw 638 (by decide +kernel) (by decide +kernel), ini_RX5, (by decide +kernel)⟩
theorem sX5_withLast : Cond.static (gt_y MX5_withLast) ∈ gw := mem_gw 637 (by decide +kernel) (by decide +kernel)
def MX5_withoutFirst : MT := (yX5_withoutFirst, cX5_withoutFirst, 1, some .int, 0, 0)
theorem oX5_withoutFirst : gt_MO MX5_withoutFirst 1 := ⟨mem_gw 626 (by decide +kernel) (by decide +kernel), ini_RX5, (by decide +kernel)⟩
theorem sX5_withoutFirst : Cond.static (gt_y MX5_withoutFirst) ∈ gw := mem_gw 625 (by decide +kernel) (by decide +kernel)
def MX6_begin : MT := (yX6_begin, cX6_begin, 2, none, 3, 69)
theorem oX6_begin : gt_MO MX6_begin 1 := ⟨mem_gw 741 (by decide +kernel) (by decide +kernel), ini_RX6, (by decide +kernel)⟩
theorem iX6_begin : gt_IO MX6_begin := ⟨mem_gw 740 (by decide +kernel) (by decide +kernel), mem_gw 18 (by decide +kernel) (by decide +kernel)⟩
def MX6_cellOfOutcome : MT := (yX6_cellOfOutcome, cX6_cellOfOutcome, 3, some .int, 1, 21)
theorem oX6_cellOfOutcome : gt_MO MX6_cellOfOutcome 2 := ⟨mem_gw 841 (by decide +kernel) (by decide +kernel), ini_RX6, (by decide +kernel)⟩
theorem iX6_cellOfOutcome : gt_IO MX6_cellOfOutcome := ⟨mem_gw 839 (by decide +kernel) (by decide +kernel), mem_gw 840 (by decide +kernel) (by decide +kernel)⟩
def MX6_depthOf : MT := (yX6_depthOf, cX6_depthOf, 2, some .int, 0, 0)
theorem oX6_depthOf : gt_MO MX6_depthOf 1 := ⟨mem_gw 820 (by decide +kernel) (by decide +kernel), ini_RX6, (by decide +kernel)⟩
theorem iX6_depthOf : gt_IO MX6_depthOf := ⟨mem_gw 818 (by decide +kernel) (by decide +kernel), mem_gw 819 (by decide +kernel) (by decide +kernel)⟩
def MX6_explore : MT := (yX6_explore, cX6_explore, 5, none, 4, 93)
theorem oX6_explore : gt_MO MX6_explore 2 := ⟨mem_gw 737 (by decide +kernel) (by decide +kernel), ini_RX6, (by decide +kernel)⟩
theorem iX6_explore : gt_IO MX6_explore := ⟨mem_gw 735 (by decide +kernel) (by decide +kernel), mem_gw 736 (by decide +kernel) (by decide +kernel)⟩
def MX6_forget : MT := (yX6_forget, cX6_forget, 1, none, 0, 0)
theorem oX6_forget : gt_MO MX6_forget 0 := ⟨mem_gw 404 (by decide +kernel) (by decide +kernel), ini_RX6, (by decide +kernel)⟩
theorem iX6_forget : gt_IO MX6_forget := ⟨mem_gw 402 (by decide +kernel) (by decide +kernel), mem_gw 403 (by decide +kernel) (by decide +kernel)⟩
def MX6_goesRound : MT := (yX6_goesRound, cX6_goesRound, 6, some .boolean, 0, 0)
theorem oX6_goesRound : gt_MO MX6_goesRound 0 := ⟨mem_gw 854 (by decide +kernel) (by decide +kernel), ini_RX6, (by decide +kernel)⟩
theorem iX6_goesRound : gt_IO MX6_goesRound := ⟨mem_gw 852 (by decide +kernel) (by decide +kernel), mem_gw 853 (by decide +kernel) (by decide +kernel)⟩
def MX6_greatestDepth : MT := (yX6_greatestDepth, cX6_greatestDepth, 1, some .int, 1, 21)
theorem oX6_greatestDepth : gt_MO MX6_greatestDepth 0 := ⟨mem_gw 816 (by decide +kernel) (by decide +kernel), ini_RX6, (by decide +kernel)⟩
theorem iX6_greatestDepth : gt_IO MX6_greatestDepth := ⟨mem_gw 814 (by decide +kernel) (by decide +kernel), mem_gw 815 (by decide +kernel) (by decide +kernel)⟩
def MX6_init : MT := (yX6_init, cX6_init, 1, none, 3, 61)
theorem oX6_init : gt_MO MX6_init 0 := ⟨mem_gw 271 (by decide +kernel) (by decide +kernel), ini_RX6, (by decide +kernel)⟩
theorem nX6_init : Cond.instanceMethod (gt_y MX6_init) ∈ gw := mem_gw 270 (by decide +kernel) (by decide +kernel)
def MX6_moverOf : MT := (yX6_moverOf, cX6_moverOf, 6, some .int, 1, 21)
theorem oX6_moverOf : gt_MO MX6_moverOf 2 := ⟨mem_gw 829 (by decide +kernel) (by decide +kernel), ini_RX6, (by decide +kernel)⟩
theorem iX6_moverOf : gt_IO MX6_moverOf := ⟨mem_gw 827 (by decide +kernel) (by decide +kernel), mem_gw 828 (by decide +kernel) (by decide +kernel)⟩
def MX6_note : MT := (yX6_note, cX6_note, 5, none, 3, 68)
theorem oX6_note : gt_MO MX6_note 4 := ⟨mem_gw 781 (by decide +kernel) (by decide +kernel), ini_RX6, (by decide +kernel)⟩
theorem iX6_note : gt_IO MX6_note := ⟨mem_gw 780 (by decide +kernel) (by decide +kernel), mem_gw 22 (by decide +kernel) (by decide +kernel)⟩
def MX6_noteMonitors : MT := (yX6_noteMonitors, cX6_noteMonitors, 4, none, 2, 45)
theorem oX6_noteMonitors : gt_MO MX6_noteMonitors 0 := ⟨mem_gw 799 (by decide +kernel) (by decide +kernel), ini_RX6, (by decide +kernel)⟩
theorem iX6_noteMonitors : gt_IO MX6_noteMonitors := ⟨mem_gw 798 (by decide +kernel) (by decide +kernel), mem_gw 24 (by decide +kernel) (by decide +kernel)⟩
def MX6_noteOutcome : MT := (yX6_noteOutcome, cX6_noteOutcome, 3, none, 1, 22)
theorem oX6_noteOutcome : gt_MO MX6_noteOutcome 0 := ⟨mem_gw 794 (by decide +kernel) (by decide +kernel), ini_RX6, (by decide +kernel)⟩
theorem iX6_noteOutcome : gt_IO MX6_noteOutcome := ⟨mem_gw 793 (by decide +kernel) (by decide +kernel), mem_gw 23 (by decide +kernel) (by decide +kernel)⟩
def MX7_empty : MT := (yX7_empty, cX7_empty, 1, none, 1, 23)
theorem oX7_empty : gt_MO MX7_empty 0 := ⟨mem_gw 751 (by decide +kernel) (by decide +kernel), ini_RX7, (by decide +kernel)⟩
theorem iX7_empty : gt_IO MX7_empty := ⟨mem_gw 749 (by decide +kernel) (by decide +kernel), mem_gw 750 (by decide +kernel) (by decide +kernel)⟩
def MX7_firstSlot : MT := (yX7_firstSlot, cX7_firstSlot, 3, some .int, 0, 0)
theorem oX7_firstSlot : gt_MO MX7_firstSlot 0 := ⟨mem_gw 771 (by decide +kernel) (by decide +kernel), ini_RX7, (by decide +kernel)⟩
theorem iX7_firstSlot : gt_IO MX7_firstSlot := ⟨mem_gw 770 (by decide +kernel) (by decide +kernel), mem_gw 20 (by decide +kernel) (by decide +kernel)⟩
def MX7_init : MT := (yX7_init, cX7_init, 1, none, 1, 20)
theorem oX7_init : gt_MO MX7_init 0 := ⟨mem_gw 279 (by decide +kernel) (by decide +kernel), ini_RX7, (by decide +kernel)⟩
theorem nX7_init : Cond.instanceMethod (gt_y MX7_init) ∈ gw := mem_gw 278 (by decide +kernel) (by decide +kernel)
def MX7_isDraft : MT := (yX7_isDraft, cX7_isDraft, 3, some .boolean, 0, 0)
theorem oX7_isDraft : gt_MO MX7_isDraft 1 := ⟨mem_gw 776 (by decide +kernel) (by decide +kernel), ini_RX7, (by decide +kernel)⟩
theorem iX7_isDraft : gt_IO MX7_isDraft := ⟨mem_gw 775 (by decide +kernel) (by decide +kernel), mem_gw 21 (by decide +kernel) (by decide +kernel)⟩
def MX7_keep : MT := (yX7_keep, cX7_keep, 4, some .int, 2, 44)
theorem oX7_keep : gt_MO MX7_keep 1 := ⟨mem_gw 757 (by decide +kernel) (by decide +kernel), ini_RX7, (by decide +kernel)⟩
theorem iX7_keep : gt_IO MX7_keep := ⟨mem_gw 755 (by decide +kernel) (by decide +kernel), mem_gw 756 (by decide +kernel) (by decide +kernel)⟩
def MX7_pack : MT := (yX7_pack, cX7_pack, 3, none, 1, 22)
theorem oX7_pack : gt_MO MX7_pack 1 := ⟨mem_gw 761 (by decide +kernel) (by decide +kernel), ini_RX7, (by decide +kernel)⟩
theorem iX7_pack : gt_IO MX7_pack := ⟨mem_gw 760 (by decide +kernel) (by decide +kernel), mem_gw 19 (by decide +kernel) (by decide +kernel)⟩
def MX7_packedCells : MT := (yX7_packedCells, cX7_packedCells, 3, some .int, 0, 0)
theorem oX7_packedCells : gt_MO MX7_packedCells 1 := ⟨mem_gw 767 (by decide +kernel) (by decide +kernel), ini_RX7, (by decide +kernel)⟩
theorem sX7_packedCells : Cond.static (gt_y MX7_packedCells) ∈ gw := mem_gw 766 (by decide +kernel) (by decide +kernel)
def MX7_packedTask : MT := (yX7_packedTask, cX7_packedTask, 2, some .int, 0, 0)
theorem oX7_packedTask : gt_MO MX7_packedTask 2 := ⟨mem_gw 764 (by decide +kernel) (by decide +kernel), ini_RX7, (by decide +kernel)⟩
theorem sX7_packedTask : Cond.static (gt_y MX7_packedTask) ∈ gw := mem_gw 763 (by decide +kernel) (by decide +kernel)
def MX7_unpack : MT := (yX7_unpack, cX7_unpack, 6, none, 1, 21)
theorem oX7_unpack : gt_MO MX7_unpack 2 := ⟨mem_gw 808 (by decide +kernel) (by decide +kernel), ini_RX7, (by decide +kernel)⟩
theorem iX7_unpack : gt_IO MX7_unpack := ⟨mem_gw 806 (by decide +kernel) (by decide +kernel), mem_gw 807 (by decide +kernel) (by decide +kernel)⟩
def MX7_unpackedCell : MT := (yX7_unpackedCell, cX7_unpackedCell, 2, some .int, 0, 0)
theorem oX7_unpackedCell : gt_MO MX7_unpackedCell 2 := ⟨mem_gw 811 (by decide +kernel) (by decide +kernel), ini_RX7, (by decide +kernel)⟩
theorem sX7_unpackedCell : Cond.static (gt_y MX7_unpackedCell) ∈ gw := mem_gw 810 (by decide +kernel) (by decide +kernel)
def MX8_append : MT := (yX8_append, cX8_append, 2, none, 0, 0)
theorem oX8_append : gt_MO MX8_append 1 := ⟨mem_gw 456 (by decide +kernel) (by decide +kernel), ini_RX8, (by decide +kernel)⟩
theorem iX8_append : gt_IO MX8_append := ⟨mem_gw 454 (by decide +kernel) (by decide +kernel), mem_gw 455 (by decide +kernel) (by decide +kernel)⟩
def MX8_at : MT := (yX8_at, cX8_at, 2, some .int, 0, 0)
theorem oX8_at : gt_MO MX8_at 1 := ⟨mem_gw 484 (by decide +kernel) (by decide +kernel), ini_RX8, (by decide +kernel)⟩
theorem iX8_at : gt_IO MX8_at := ⟨mem_gw 482 (by decide +kernel) (by decide +kernel), mem_gw 483 (by decide +kernel) (by decide +kernel)⟩
def MX8_init : MT := (yX8_init, cX8_init, 1, none, 1, 20)
theorem oX8_init : gt_MO MX8_init 0 := ⟨mem_gw 203 (by decide +kernel) (by decide +kernel), ini_RX8, (by decide +kernel)⟩
theorem nX8_init : Cond.instanceMethod (gt_y MX8_init) ∈ gw := mem_gw 202 (by decide +kernel) (by decide +kernel)
def MX9_append : MT := (yX9_append, cX9_append, 3, none, 0, 0)
theorem oX9_append : gt_MO MX9_append 2 := ⟨mem_gw 584 (by decide +kernel) (by decide +kernel), ini_RX9, (by decide +kernel)⟩
theorem iX9_append : gt_IO MX9_append := ⟨mem_gw 583 (by decide +kernel) (by decide +kernel), mem_gw 10 (by decide +kernel) (by decide +kernel)⟩
def MX9_init : MT := (yX9_init, cX9_init, 1, none, 1, 20)
theorem oX9_init : gt_MO MX9_init 0 := ⟨mem_gw 235 (by decide +kernel) (by decide +kernel), ini_RX9, (by decide +kernel)⟩
theorem nX9_init : Cond.instanceMethod (gt_y MX9_init) ∈ gw := mem_gw 234 (by decide +kernel) (by decide +kernel)
def MX9_link : MT := (yX9_link, cX9_link, 3, some .int, 0, 0)
theorem oX9_link : gt_MO MX9_link 2 := ⟨mem_gw 729 (by decide +kernel) (by decide +kernel), ini_RX9, (by decide +kernel)⟩
theorem iX9_link : gt_IO MX9_link := ⟨mem_gw 727 (by decide +kernel) (by decide +kernel), mem_gw 728 (by decide +kernel) (by decide +kernel)⟩
def MX9_ofProgram : MT := (yX9_ofProgram, cX9_ofProgram, 4, none, 1, 22)
theorem oX9_ofProgram : gt_MO MX9_ofProgram 3 := ⟨mem_gw 580 (by decide +kernel) (by decide +kernel), ini_RX9, (by decide +kernel)⟩
theorem iX9_ofProgram : gt_IO MX9_ofProgram := ⟨mem_gw 578 (by decide +kernel) (by decide +kernel), mem_gw 579 (by decide +kernel) (by decide +kernel)⟩
def MX9_ofStep : MT := (yX9_ofStep, cX9_ofStep, 5, none, 1, 22)
theorem oX9_ofStep : gt_MO MX9_ofStep 4 := ⟨mem_gw 654 (by decide +kernel) (by decide +kernel), ini_RX9, (by decide +kernel)⟩
theorem iX9_ofStep : gt_IO MX9_ofStep := ⟨mem_gw 652 (by decide +kernel) (by decide +kernel), mem_gw 653 (by decide +kernel) (by decide +kernel)⟩
end
section
theorem cw_nat : Cond.native arraycopyName ∈ gw := mem_gw 591 (by decide +kernel) (by decide +kernel)
theorem cw_sta : Cond.static arraycopyName ∈ gw := mem_gw 590 (by decide +kernel) (by decide +kernel)
theorem mw_sta : Cond.static Lib.Math.min.name ∈ gw := mem_gw 649 (by decide +kernel) (by decide +kernel)
theorem mw_cod : Cond.code Lib.Math.min.name Lib.Math.min.code 2 (some .int) ∈ gw := mem_gw 650 (by decide +kernel) (by decide +kernel)
theorem lk_RJ0_492 : Cond.methodLink RJ0 492 yJ0_isLatin1_aae02 ∈ gw := mem_gw 515 (by decide +kernel) (by decide +kernel)
theorem lk_RJ0_495 : Cond.methodLink RJ0 495 yJ1_charAt_3b067 ∈ gw := mem_gw 519 (by decide +kernel) (by decide +kernel)
theorem lk_RJ0_1059 : Cond.methodLink RJ0 1059 yJ3_checkIndex_8e157 ∈ gw := mem_gw 527 (by decide +kernel) (by decide +kernel)
theorem lk_RJ0_335 : Cond.methodLink RJ0 335 yJ0_coder_7d493 ∈ gw := mem_gw 505 (by decide +kernel) (by decide +kernel)
theorem lk_RJ1_9 : Cond.methodLink RJ1 9 yJ0_checkIndex_df160 ∈ gw := mem_gw 522 (by decide +kernel) (by decide +kernel)
theorem lk_RL_9 : Cond.methodLink RL 9 yX10_init ∈ gw := mem_gw 89 (by decide +kernel) (by decide +kernel)
theorem lk_RL_12 : Cond.methodLink RL 12 yX11_init ∈ gw := mem_gw 902 (by decide +kernel) (by decide +kernel)
theorem lk_RL_13 : Cond.methodLink RL 13 yX10_task ∈ gw := mem_gw 397 (by decide +kernel) (by decide +kernel)
theorem lk_RL_17 : Cond.methodLink RL 17 yX11_task ∈ gw := mem_gw 994 (by decide +kernel) (by decide +kernel)
theorem lk_RL_18 : Cond.methodLink RL 18 yX10_restart ∈ gw := mem_gw 409 (by decide +kernel) (by decide +kernel)
theorem lk_RL_21 : Cond.methodLink RL 21 yX11_restart ∈ gw := mem_gw 998 (by decide +kernel) (by decide +kernel)
theorem lk_RL_22 : Cond.methodLink RL 22 yX10_missing ∈ gw := mem_gw 421 (by decide +kernel) (by decide +kernel)
theorem lk_RL_26 : Cond.methodLink RL 26 yX11_missing ∈ gw := mem_gw 1002 (by decide +kernel) (by decide +kernel)
theorem lk_RL_27 : Cond.methodLink RL 27 yX10_put ∈ gw := mem_gw 435 (by decide +kernel) (by decide +kernel)
theorem lk_RL_31 : Cond.methodLink RL 31 yX11_put ∈ gw := mem_gw 1013 (by decide +kernel) (by decide +kernel)
theorem lk_RL_32 : Cond.methodLink RL 32 yX10_cell ∈ gw := mem_gw 445 (by decide +kernel) (by decide +kernel)
theorem lk_RL_36 : Cond.methodLink RL 36 yX11_cell ∈ gw := mem_gw 1023 (by decide +kernel) (by decide +kernel)
theorem lk_RL_37 : Cond.methodLink RL 37 yX10_feed ∈ gw := mem_gw 449 (by decide +kernel) (by decide +kernel)
theorem lk_RL_40 : Cond.methodLink RL 40 yX11_feed ∈ gw := mem_gw 1027 (by decide +kernel) (by decide +kernel)
theorem lk_RL_41 : Cond.methodLink RL 41 yX10_clear ∈ gw := mem_gw 457 (by decide +kernel) (by decide +kernel)
theorem lk_RL_44 : Cond.methodLink RL 44 yX11_clear ∈ gw := mem_gw 1032 (by decide +kernel) (by decide +kernel)
theorem lk_RL_45 : Cond.methodLink RL 45 yX10_program ∈ gw := mem_gw 461 (by decide +kernel) (by decide +kernel)
theorem lk_RL_48 : Cond.methodLink RL 48 yX11_program ∈ gw := mem_gw 1036 (by decide +kernel) (by decide +kernel)
theorem lk_RL_49 : Cond.methodLink RL 49 yX10_statement ∈ gw := mem_gw 593 (by decide +kernel) (by decide +kernel)
theorem lk_RL_53 : Cond.methodLink RL 53 yX11_statement ∈ gw := mem_gw 1085 (by decide +kernel) (by decide +kernel)
theorem lk_RL_54 : Cond.methodLink RL 54 yX10_step ∈ gw := mem_gw 601 (by decide +kernel) (by decide +kernel)
theorem lk_RL_57 : Cond.methodLink RL 57 yX11_step ∈ gw := mem_gw 1093 (by decide +kernel) (by decide +kernel)
theorem lk_RL_58 : Cond.methodLink RL 58 yX10_run ∈ gw := mem_gw 655 (by decide +kernel) (by decide +kernel)
theorem lk_RL_61 : Cond.methodLink RL 61 yX11_run ∈ gw := mem_gw 1141 (by decide +kernel) (by decide +kernel)
theorem lk_RL_62 : Cond.methodLink RL 62 yX10_follow ∈ gw := mem_gw 663 (by decide +kernel) (by decide +kernel)
theorem lk_RL_65 : Cond.methodLink RL 65 yX11_follow ∈ gw := mem_gw 1150 (by decide +kernel) (by decide +kernel)
theorem lk_RL_66 : Cond.methodLink RL 66 yX10_of ∈ gw := mem_gw 674 (by decide +kernel) (by decide +kernel)
theorem lk_RL_69 : Cond.methodLink RL 69 yX11_of ∈ gw := mem_gw 1157 (by decide +kernel) (by decide +kernel)
theorem lk_RL_70 : Cond.methodLink RL 70 yX10_gate ∈ gw := mem_gw 689 (by decide +kernel) (by decide +kernel)
theorem lk_RL_73 : Cond.methodLink RL 73 yX11_gate ∈ gw := mem_gw 1169 (by decide +kernel) (by decide +kernel)
theorem lk_RL_74 : Cond.methodLink RL 74 yX10_stands ∈ gw := mem_gw 696 (by decide +kernel) (by decide +kernel)
theorem lk_RL_77 : Cond.methodLink RL 77 yX11_stands ∈ gw := mem_gw 1173 (by decide +kernel) (by decide +kernel)
theorem lk_RL_78 : Cond.methodLink RL 78 yX10_are ∈ gw := mem_gw 701 (by decide +kernel) (by decide +kernel)
theorem lk_RL_81 : Cond.methodLink RL 81 yX11_are ∈ gw := mem_gw 1177 (by decide +kernel) (by decide +kernel)
theorem lk_RL_82 : Cond.methodLink RL 82 yX10_told ∈ gw := mem_gw 709 (by decide +kernel) (by decide +kernel)
theorem lk_RL_85 : Cond.methodLink RL 85 yX11_told ∈ gw := mem_gw 1186 (by decide +kernel) (by decide +kernel)
theorem lk_RL_86 : Cond.methodLink RL 86 yX10_cause ∈ gw := mem_gw 722 (by decide +kernel) (by decide +kernel)
theorem lk_RL_89 : Cond.methodLink RL 89 yX11_cause ∈ gw := mem_gw 1198 (by decide +kernel) (by decide +kernel)
theorem lk_RL_90 : Cond.methodLink RL 90 yX10_found ∈ gw := mem_gw 730 (by decide +kernel) (by decide +kernel)
theorem lk_RL_93 : Cond.methodLink RL 93 yX11_found ∈ gw := mem_gw 1202 (by decide +kernel) (by decide +kernel)
theorem lk_RL_94 : Cond.methodLink RL 94 yX10_schedule ∈ gw := mem_gw 822 (by decide +kernel) (by decide +kernel)
theorem lk_RL_97 : Cond.methodLink RL 97 yX11_schedule ∈ gw := mem_gw 1255 (by decide +kernel) (by decide +kernel)
theorem lk_RL_98 : Cond.methodLink RL 98 yX10_lay ∈ gw := mem_gw 830 (by decide +kernel) (by decide +kernel)
theorem lk_RL_101 : Cond.methodLink RL 101 yX11_lay ∈ gw := mem_gw 1267 (by decide +kernel) (by decide +kernel)
theorem lk_RL_102 : Cond.methodLink RL 102 yX10_outcome ∈ gw := mem_gw 834 (by decide +kernel) (by decide +kernel)
theorem lk_RL_105 : Cond.methodLink RL 105 yX11_outcome ∈ gw := mem_gw 1271 (by decide +kernel) (by decide +kernel)
theorem lk_RL_106 : Cond.methodLink RL 106 yX10_under ∈ gw := mem_gw 843 (by decide +kernel) (by decide +kernel)
theorem lk_RL_109 : Cond.methodLink RL 109 yX11_under ∈ gw := mem_gw 1275 (by decide +kernel) (by decide +kernel)
theorem lk_RL_110 : Cond.methodLink RL 110 yX10_round ∈ gw := mem_gw 847 (by decide +kernel) (by decide +kernel)
theorem lk_RL_113 : Cond.methodLink RL 113 yX11_round ∈ gw := mem_gw 1286 (by decide +kernel) (by decide +kernel)
theorem lk_RL_114 : Cond.methodLink RL 114 yX10_condition ∈ gw := mem_gw 855 (by decide +kernel) (by decide +kernel)
theorem lk_RL_117 : Cond.methodLink RL 117 yX11_condition ∈ gw := mem_gw 1290 (by decide +kernel) (by decide +kernel)
theorem lk_RL_118 : Cond.methodLink RL 118 yX10_holds ∈ gw := mem_gw 863 (by decide +kernel) (by decide +kernel)
theorem lk_RL_121 : Cond.methodLink RL 121 yX11_holds ∈ gw := mem_gw 1294 (by decide +kernel) (by decide +kernel)
theorem lk_RL_122 : Cond.methodLink RL 122 yX10_list ∈ gw := mem_gw 868 (by decide +kernel) (by decide +kernel)
theorem lk_RL_125 : Cond.methodLink RL 125 yX11_list ∈ gw := mem_gw 1298 (by decide +kernel) (by decide +kernel)
theorem lk_RL_126 : Cond.methodLink RL 126 yX10_set ∈ gw := mem_gw 877 (by decide +kernel) (by decide +kernel)
theorem lk_RL_129 : Cond.methodLink RL 129 yX11_set ∈ gw := mem_gw 1302 (by decide +kernel) (by decide +kernel)
theorem lk_RL_130 : Cond.methodLink RL 130 yX10_get ∈ gw := mem_gw 885 (by decide +kernel) (by decide +kernel)
theorem lk_RL_133 : Cond.methodLink RL 133 yX11_get ∈ gw := mem_gw 1306 (by decide +kernel) (by decide +kernel)
theorem lk_RL_134 : Cond.methodLink RL 134 yX10_image ∈ gw := mem_gw 890 (by decide +kernel) (by decide +kernel)
theorem lk_RL_137 : Cond.methodLink RL 137 yX11_image ∈ gw := mem_gw 1311 (by decide +kernel) (by decide +kernel)
theorem lk_RL_138 : Cond.methodLink RL 138 yX10_back ∈ gw := mem_gw 896 (by decide +kernel) (by decide +kernel)
theorem lk_RL_141 : Cond.methodLink RL 141 yX11_back ∈ gw := mem_gw 1315 (by decide +kernel) (by decide +kernel)
theorem lk_RX0_25 : Cond.methodLink RX0 25 yX0_isSo ∈ gw := mem_gw 787 (by decide +kernel) (by decide +kernel)
theorem lk_RX0_3 : Cond.methodLink RX0 3 objectInit ∈ gw := mem_gw 252 (by decide +kernel) (by decide +kernel)
theorem lk_RX10_198 : Cond.methodLink RX10 198 yX1_allThatAre ∈ gw := mem_gw 705 (by decide +kernel) (by decide +kernel)
theorem lk_RX10_67 : Cond.methodLink RX10 67 yX6_forget ∈ gw := mem_gw 401 (by decide +kernel) (by decide +kernel)
theorem lk_RX10_283 : Cond.methodLink RX10 283 yX1_copyFrom ∈ gw := mem_gw 894 (by decide +kernel) (by decide +kernel)
theorem lk_RX10_212 : Cond.methodLink RX10 212 yX9_link ∈ gw := mem_gw 726 (by decide +kernel) (by decide +kernel)
theorem lk_RX10_92 : Cond.methodLink RX10 92 yX10_isCell ∈ gw := mem_gw 439 (by decide +kernel) (by decide +kernel)
theorem lk_RX10_95 : Cond.methodLink RX10 95 yX10_isCellNumber ∈ gw := mem_gw 442 (by decide +kernel) (by decide +kernel)
theorem lk_RX10_265 : Cond.methodLink RX10 265 yX0_append ∈ gw := mem_gw 859 (by decide +kernel) (by decide +kernel)
theorem lk_RX10_107 : Cond.methodLink RX10 107 yX8_append ∈ gw := mem_gw 453 (by decide +kernel) (by decide +kernel)
theorem lk_RX10_153 : Cond.methodLink RX10 153 yX2_refusalOf ∈ gw := mem_gw 667 (by decide +kernel) (by decide +kernel)
theorem lk_RX10_111 : Cond.methodLink RX10 111 yX10_isTask ∈ gw := mem_gw 465 (by decide +kernel) (by decide +kernel)
theorem lk_RX10_146 : Cond.methodLink RX10 146 yX10_takeTruly ∈ gw := mem_gw 605 (by decide +kernel) (by decide +kernel)
theorem lk_RX10_215 : Cond.methodLink RX10 215 yX6_explore ∈ gw := mem_gw 734 (by decide +kernel) (by decide +kernel)
theorem lk_RX10_88 : Cond.methodLink RX10 88 yX10_asNumber ∈ gw := mem_gw 432 (by decide +kernel) (by decide +kernel)
theorem lk_RX10_235 : Cond.methodLink RX10 235 yX6_greatestDepth ∈ gw := mem_gw 813 (by decide +kernel) (by decide +kernel)
theorem lk_RX10_241 : Cond.methodLink RX10 241 yX6_depthOf ∈ gw := mem_gw 821 (by decide +kernel) (by decide +kernel)
theorem lk_RX10_77 : Cond.methodLink RX10 77 yX10_isMonitor ∈ gw := mem_gw 425 (by decide +kernel) (by decide +kernel)
theorem lk_RX10_187 : Cond.methodLink RX10 187 yX5_length ∈ gw := mem_gw 693 (by decide +kernel) (by decide +kernel)
theorem lk_RX10_271 : Cond.methodLink RX10 271 yX10_isList ∈ gw := mem_gw 872 (by decide +kernel) (by decide +kernel)
theorem lk_RX10_278 : Cond.methodLink RX10 278 yX2_hasPlace ∈ gw := mem_gw 881 (by decide +kernel) (by decide +kernel)
theorem lk_RX10_267 : Cond.methodLink RX10 267 yX0_allSo ∈ gw := mem_gw 867 (by decide +kernel) (by decide +kernel)
theorem lk_RX10_286 : Cond.methodLink RX10 286 yX1_forgetReasons ∈ gw := mem_gw 895 (by decide +kernel) (by decide +kernel)
theorem lk_RX10_1 : Cond.methodLink RX10 1 objectInit ∈ gw := mem_gw 92 (by decide +kernel) (by decide +kernel)
theorem lk_RX10_9 : Cond.methodLink RX10 9 yX1_init ∈ gw := mem_gw 97 (by decide +kernel) (by decide +kernel)
theorem lk_RX10_25 : (RX10, 25, yX4_init) ∈ gt_nest := (by decide +kernel)
theorem lk_RX10_37 : (RX10, 37, yX9_init) ∈ gt_nest := (by decide +kernel)
theorem lk_RX10_44 : (RX10, 44, yX0_init) ∈ gt_nest := (by decide +kernel)
theorem lk_RX10_51 : (RX10, 51, yX6_init) ∈ gt_nest := (by decide +kernel)
theorem lk_RX10_58 : Cond.methodLink RX10 58 yX2_init ∈ gw := mem_gw 353 (by decide +kernel) (by decide +kernel)
theorem lk_RX10_253 : Cond.methodLink RX10 253 yX6_moverOf ∈ gw := mem_gw 826 (by decide +kernel) (by decide +kernel)
theorem lk_RX10_274 : Cond.methodLink RX10 274 yX2_begin ∈ gw := mem_gw 873 (by decide +kernel) (by decide +kernel)
theorem lk_RX10_81 : Cond.methodLink RX10 81 yX1_isUsed ∈ gw := mem_gw 428 (by decide +kernel) (by decide +kernel)
theorem lk_RX10_166 : Cond.methodLink RX10 166 yX1_whereStands ∈ gw := mem_gw 678 (by decide +kernel) (by decide +kernel)
theorem lk_RX10_175 : Cond.methodLink RX10 175 yX1_ownedBy ∈ gw := mem_gw 685 (by decide +kernel) (by decide +kernel)
theorem lk_RX10_256 : Cond.methodLink RX10 256 yX6_cellOfOutcome ∈ gw := mem_gw 838 (by decide +kernel) (by decide +kernel)
theorem lk_RX10_120 : Cond.methodLink RX10 120 yX4_read ∈ gw := mem_gw 469 (by decide +kernel) (by decide +kernel)
theorem lk_RX10_130 : Cond.methodLink RX10 130 yX9_ofProgram ∈ gw := mem_gw 577 (by decide +kernel) (by decide +kernel)
theorem lk_RX10_138 : Cond.methodLink RX10 138 yX3_copyFrom ∈ gw := mem_gw 585 (by decide +kernel) (by decide +kernel)
theorem lk_RX10_74 : Cond.methodLink RX10 74 yX1_startAgain ∈ gw := mem_gw 413 (by decide +kernel) (by decide +kernel)
theorem lk_RX10_262 : Cond.methodLink RX10 262 yX6_goesRound ∈ gw := mem_gw 851 (by decide +kernel) (by decide +kernel)
theorem lk_RX10_149 : Cond.methodLink RX10 149 yX1_chosenBy ∈ gw := mem_gw 659 (by decide +kernel) (by decide +kernel)
theorem lk_RX10_195 : Cond.methodLink RX10 195 yX5_at ∈ gw := mem_gw 700 (by decide +kernel) (by decide +kernel)
theorem lk_RX10_142 : Cond.methodLink RX10 142 yX3_part ∈ gw := mem_gw 597 (by decide +kernel) (by decide +kernel)
theorem lk_RX10_289 : Cond.methodLink RX10 289 yX1_take ∈ gw := mem_gw 609 (by decide +kernel) (by decide +kernel)
theorem lk_RX10_292 : Cond.methodLink RX10 292 yX9_ofStep ∈ gw := mem_gw 651 (by decide +kernel) (by decide +kernel)
theorem lk_RX10_70 : Cond.methodLink RX10 70 yX1_newTask ∈ gw := mem_gw 405 (by decide +kernel) (by decide +kernel)
theorem lk_RX10_202 : Cond.methodLink RX10 202 yX1_sticks ∈ gw := mem_gw 713 (by decide +kernel) (by decide +kernel)
theorem lk_RX10_206 : Cond.methodLink RX10 206 yX1_isOver ∈ gw := mem_gw 718 (by decide +kernel) (by decide +kernel)
theorem lk_RX11_64 : Cond.methodLink RX11 64 yX11_in ∈ gw := mem_gw 1010 (by decide +kernel) (by decide +kernel)
theorem lk_RX11_215 : Cond.methodLink RX11 215 yX11_areIn ∈ gw := mem_gw 1182 (by decide +kernel) (by decide +kernel)
theorem lk_RX11_146 : Cond.methodLink RX11 146 yX11_copies ∈ gw := mem_gw 1082 (by decide +kernel) (by decide +kernel)
theorem lk_RX11_76 : Cond.methodLink RX11 76 yX11_isCell ∈ gw := mem_gw 1017 (by decide +kernel) (by decide +kernel)
theorem lk_RX11_191 : Cond.methodLink RX11 191 yX11_isReady ∈ gw := mem_gw 1097 (by decide +kernel) (by decide +kernel)
theorem lk_RX11_160 : Cond.methodLink RX11 160 yX11_isOwner ∈ gw := mem_gw 1113 (by decide +kernel) (by decide +kernel)
theorem lk_RX11_163 : Cond.methodLink RX11 163 yX11_frees ∈ gw := mem_gw 1117 (by decide +kernel) (by decide +kernel)
theorem lk_RX11_169 : Cond.methodLink RX11 169 yX11_comes ∈ gw := mem_gw 1133 (by decide +kernel) (by decide +kernel)
theorem lk_RX11_228 : Cond.methodLink RX11 228 yX11_isLike ∈ gw := mem_gw 1215 (by decide +kernel) (by decide +kernel)
theorem lk_RX11_238 : Cond.methodLink RX11 238 yX11_finds ∈ gw := mem_gw 1211 (by decide +kernel) (by decide +kernel)
theorem lk_RX11_188 : Cond.methodLink RX11 188 yX11_steps ∈ gw := mem_gw 1105 (by decide +kernel) (by decide +kernel)
theorem lk_RX11_241 : Cond.methodLink RX11 241 yX11_areSo ∈ gw := mem_gw 1235 (by decide +kernel) (by decide +kernel)
theorem lk_RX11_221 : Cond.methodLink RX11 221 yX11_sticks ∈ gw := mem_gw 1190 (by decide +kernel) (by decide +kernel)
theorem lk_RX11_203 : Cond.methodLink RX11 203 yX11_isList ∈ gw := mem_gw 1154 (by decide +kernel) (by decide +kernel)
theorem lk_RX11_194 : Cond.methodLink RX11 194 yX11_stepsTruly ∈ gw := mem_gw 1101 (by decide +kernel) (by decide +kernel)
theorem lk_RX11_252 : Cond.methodLink RX11 252 yX11_findsAll ∈ gw := mem_gw 1207 (by decide +kernel) (by decide +kernel)
theorem lk_RX11_255 : Cond.methodLink RX11 255 yX11_manyOf ∈ gw := mem_gw 1219 (by decide +kernel) (by decide +kernel)
theorem lk_RX11_259 : Cond.methodLink RX11 259 yX11_deepest ∈ gw := mem_gw 1223 (by decide +kernel) (by decide +kernel)
theorem lk_RX11_262 : Cond.methodLink RX11 262 yX11_firstSticking ∈ gw := mem_gw 1227 (by decide +kernel) (by decide +kernel)
theorem lk_RX11_265 : Cond.methodLink RX11 265 yX11_firstFailing ∈ gw := mem_gw 1231 (by decide +kernel) (by decide +kernel)
theorem lk_RX11_268 : Cond.methodLink RX11 268 yX11_outcomeAt ∈ gw := mem_gw 1239 (by decide +kernel) (by decide +kernel)
theorem lk_RX11_271 : Cond.methodLink RX11 271 yX11_isNested ∈ gw := mem_gw 1251 (by decide +kernel) (by decide +kernel)
theorem lk_RX11_154 : Cond.methodLink RX11 154 yX11_leaves ∈ gw := mem_gw 1121 (by decide +kernel) (by decide +kernel)
theorem lk_RX11_72 : Cond.methodLink RX11 72 yX11_isMonitor ∈ gw := mem_gw 1006 (by decide +kernel) (by decide +kernel)
theorem lk_RX11_1 : Cond.methodLink RX11 1 objectInit ∈ gw := mem_gw 905 (by decide +kernel) (by decide +kernel)
theorem lk_RX11_225 : Cond.methodLink RX11 225 yX11_isOver ∈ gw := mem_gw 1194 (by decide +kernel) (by decide +kernel)
theorem lk_RX11_244 : Cond.methodLink RX11 244 yX11_areCellsLike ∈ gw := mem_gw 1247 (by decide +kernel) (by decide +kernel)
theorem lk_RX11_133 : Cond.methodLink RX11 133 yX11_isTask ∈ gw := mem_gw 1040 (by decide +kernel) (by decide +kernel)
theorem lk_RX11_275 : Cond.methodLink RX11 275 yX11_goal ∈ gw := mem_gw 1259 (by decide +kernel) (by decide +kernel)
theorem lk_RX11_278 : Cond.methodLink RX11 278 yX11_onWay ∈ gw := mem_gw 1263 (by decide +kernel) (by decide +kernel)
theorem lk_RX11_173 : Cond.methodLink RX11 173 yX11_enters ∈ gw := mem_gw 1129 (by decide +kernel) (by decide +kernel)
theorem lk_RX11_177 : Cond.methodLink RX11 177 yX11_notifies ∈ gw := mem_gw 1137 (by decide +kernel) (by decide +kernel)
theorem lk_RX11_111 : Cond.methodLink RX11 111 yX11_takes ∈ gw := mem_gw 1070 (by decide +kernel) (by decide +kernel)
theorem lk_RX11_95 : Cond.methodLink RX11 95 yX11_here ∈ gw := mem_gw 1052 (by decide +kernel) (by decide +kernel)
theorem lk_RX11_99 : Cond.methodLink RX11 99 yX11_must ∈ gw := mem_gw 1062 (by decide +kernel) (by decide +kernel)
theorem lk_RX11_206 : Cond.methodLink RX11 206 yX11_standsAt ∈ gw := mem_gw 1161 (by decide +kernel) (by decide +kernel)
theorem lk_RX11_209 : Cond.methodLink RX11 209 yX11_ownedBy ∈ gw := mem_gw 1165 (by decide +kernel) (by decide +kernel)
theorem lk_RX11_247 : Cond.methodLink RX11 247 yX11_isOutcome ∈ gw := mem_gw 1243 (by decide +kernel) (by decide +kernel)
theorem lk_RX11_139 : Cond.methodLink RX11 139 yX11_statement1 ∈ gw := mem_gw 1044 (by decide +kernel) (by decide +kernel)
theorem lk_RX11_142 : Cond.methodLink RX11 142 yX11_tells ∈ gw := mem_gw 1078 (by decide +kernel) (by decide +kernel)
theorem lk_RX11_285 : Cond.methodLink RX11 285 yX11_underIn ∈ gw := mem_gw 1279 (by decide +kernel) (by decide +kernel)
theorem lk_RX11_282 : Cond.methodLink RX11 282 yX11_has ∈ gw := mem_gw 1283 (by decide +kernel) (by decide +kernel)
theorem lk_RX11_199 : Cond.methodLink RX11 199 yX11_chosen ∈ gw := mem_gw 1146 (by decide +kernel) (by decide +kernel)
theorem lk_RX11_150 : Cond.methodLink RX11 150 yX11_field ∈ gw := mem_gw 1089 (by decide +kernel) (by decide +kernel)
theorem lk_RX11_119 : Cond.methodLink RX11 119 yX11_word ∈ gw := mem_gw 1048 (by decide +kernel) (by decide +kernel)
theorem lk_RX11_122 : Cond.methodLink RX11 122 yX11_number ∈ gw := mem_gw 1066 (by decide +kernel) (by decide +kernel)
theorem lk_RX11_181 : Cond.methodLink RX11 181 yX11_ends ∈ gw := mem_gw 1109 (by decide +kernel) (by decide +kernel)
theorem lk_RX11_184 : Cond.methodLink RX11 184 yX11_monitors ∈ gw := mem_gw 1125 (by decide +kernel) (by decide +kernel)
theorem lk_RX11_107 : Cond.methodLink RX11 107 yX11_isWord ∈ gw := mem_gw 1058 (by decide +kernel) (by decide +kernel)
theorem lk_RX1_86 : Cond.methodLink RX1 86 yX3_part ∈ gw := mem_gw 627 (by decide +kernel) (by decide +kernel)
theorem lk_RX1_136 : (RX1, 136, yX10_isMonitor) ∈ gt_nest := (by decide +kernel)
theorem lk_RX1_72 : Cond.methodLink RX1 72 yX3_copyFrom ∈ gw := mem_gw 746 (by decide +kernel) (by decide +kernel)
theorem lk_RX1_76 : gt_CW RX1 76 := ⟨mem_gw 747 (by decide +kernel) (by decide +kernel), cw_nat, cw_sta, ini_RJ10⟩
theorem lk_RX1_98 : Cond.methodLink RX1 98 yX1_enter ∈ gw := mem_gw 632 (by decide +kernel) (by decide +kernel)
theorem lk_RX1_101 : Cond.methodLink RX1 101 yX1_free ∈ gw := mem_gw 617 (by decide +kernel) (by decide +kernel)
theorem lk_RX1_105 : Cond.methodLink RX1 105 yX5_withLast ∈ gw := mem_gw 636 (by decide +kernel) (by decide +kernel)
theorem lk_RX1_110 : Cond.methodLink RX1 110 yX1_wake ∈ gw := mem_gw 639 (by decide +kernel) (by decide +kernel)
theorem lk_RX1_120 : (RX1, 120, yX10_isCellNumber) ∈ gt_nest := (by decide +kernel)
theorem lk_RX1_124 : gt_MW RX1 124 := ⟨mem_gw 648 (by decide +kernel) (by decide +kernel), mw_sta, ini_RJ9, mw_cod⟩
theorem lk_RX1_60 : Cond.methodLink RX1 60 yJ7_fill_53178 ∈ gw := mem_gw 120 (by decide +kernel) (by decide +kernel)
theorem lk_RX1_113 : Cond.methodLink RX1 113 yX5_at ∈ gw := mem_gw 621 (by decide +kernel) (by decide +kernel)
theorem lk_RX1_116 : Cond.methodLink RX1 116 yX5_withoutFirst ∈ gw := mem_gw 624 (by decide +kernel) (by decide +kernel)
theorem lk_RX1_3 : Cond.methodLink RX1 3 objectInit ∈ gw := mem_gw 100 (by decide +kernel) (by decide +kernel)
theorem lk_RX1_59 : (RX1, 59, yX3_init) ∈ gt_nest := (by decide +kernel)
theorem lk_RX1_133 : Cond.methodLink RX1 133 yX1_allThatAre ∈ gw := mem_gw 717 (by decide +kernel) (by decide +kernel)
theorem lk_RX1_69 : Cond.methodLink RX1 69 yX1_forgetReasons ∈ gw := mem_gw 417 (by decide +kernel) (by decide +kernel)
theorem lk_RX1_82 : Cond.methodLink RX1 82 yX1_end ∈ gw := mem_gw 613 (by decide +kernel) (by decide +kernel)
theorem lk_RX1_90 : Cond.methodLink RX1 90 yX1_doAtMonitor ∈ gw := mem_gw 628 (by decide +kernel) (by decide +kernel)
theorem lk_RX1_94 : Cond.methodLink RX1 94 yX1_doWithCells ∈ gw := mem_gw 643 (by decide +kernel) (by decide +kernel)
theorem lk_RX1_129 : Cond.methodLink RX1 129 yX5_has ∈ gw := mem_gw 682 (by decide +kernel) (by decide +kernel)
theorem lk_RX2_20 : Cond.methodLink RX2 20 yJ7_fill_53178 ∈ gw := mem_gw 359 (by decide +kernel) (by decide +kernel)
theorem lk_RX2_3 : Cond.methodLink RX2 3 objectInit ∈ gw := mem_gw 356 (by decide +kernel) (by decide +kernel)
theorem lk_RX2_26 : (RX2, 26, yX10_isList) ∈ gt_nest := (by decide +kernel)
theorem lk_RX3_19 : gt_CW RX3 19 := ⟨mem_gw 589 (by decide +kernel) (by decide +kernel), cw_nat, cw_sta, ini_RJ10⟩
theorem lk_RX3_3 : Cond.methodLink RX3 3 objectInit ∈ gw := mem_gw 107 (by decide +kernel) (by decide +kernel)
theorem lk_RX4_3 : Cond.methodLink RX4 3 objectInit ∈ gw := mem_gw 198 (by decide +kernel) (by decide +kernel)
theorem lk_RX4_11 : (RX4, 11, yX8_init) ∈ gt_nest := (by decide +kernel)
theorem lk_RX4_20 : (RX4, 20, yX3_init) ∈ gt_nest := (by decide +kernel)
theorem lk_RX4_67 : Cond.methodLink RX4 67 yJ0_length_8abf5 ∈ gw := mem_gw 501 (by decide +kernel) (by decide +kernel)
theorem lk_RX4_38 : Cond.methodLink RX4 38 yX8_at ∈ gw := mem_gw 481 (by decide +kernel) (by decide +kernel)
theorem lk_RX4_72 : Cond.methodLink RX4 72 yJ0_charAt_5068e ∈ gw := mem_gw 511 (by decide +kernel) (by decide +kernel)
theorem lk_RX4_35 : Cond.methodLink RX4 35 yX4_readStatement ∈ gw := mem_gw 473 (by decide +kernel) (by decide +kernel)
theorem lk_RX4_94 : Cond.methodLink RX4 94 yX4_readBlank ∈ gw := mem_gw 553 (by decide +kernel) (by decide +kernel)
theorem lk_RX4_97 : Cond.methodLink RX4 97 yX4_takeFigures ∈ gw := mem_gw 557 (by decide +kernel) (by decide +kernel)
theorem lk_RX4_100 : Cond.methodLink RX4 100 yX4_allowed ∈ gw := mem_gw 561 (by decide +kernel) (by decide +kernel)
theorem lk_RX4_42 : Cond.methodLink RX4 42 yX4_readWord ∈ gw := mem_gw 477 (by decide +kernel) (by decide +kernel)
theorem lk_RX4_46 : Cond.methodLink RX4 46 yX4_readTarget ∈ gw := mem_gw 549 (by decide +kernel) (by decide +kernel)
theorem lk_RX4_49 : Cond.methodLink RX4 49 yX4_readFigureBelow ∈ gw := mem_gw 565 (by decide +kernel) (by decide +kernel)
theorem lk_RX4_52 : Cond.methodLink RX4 52 yX4_readNumber ∈ gw := mem_gw 569 (by decide +kernel) (by decide +kernel)
theorem lk_RX4_55 : Cond.methodLink RX4 55 yX3_append ∈ gw := mem_gw 573 (by decide +kernel) (by decide +kernel)
theorem lk_RX4_59 : Cond.methodLink RX4 59 yX4_wordOf ∈ gw := mem_gw 485 (by decide +kernel) (by decide +kernel)
theorem lk_RX4_63 : Cond.methodLink RX4 63 yX4_isWord ∈ gw := mem_gw 497 (by decide +kernel) (by decide +kernel)
theorem lk_RX6_96 : Cond.methodLink RX6 96 yX1_copyFrom ∈ gw := mem_gw 742 (by decide +kernel) (by decide +kernel)
theorem lk_RX6_99 : Cond.methodLink RX6 99 yX7_empty ∈ gw := mem_gw 748 (by decide +kernel) (by decide +kernel)
theorem lk_RX6_102 : Cond.methodLink RX6 102 yJ7_fill_53178 ∈ gw := mem_gw 753 (by decide +kernel) (by decide +kernel)
theorem lk_RX6_147 : Cond.methodLink RX6 147 yX7_unpackedCell ∈ gw := mem_gw 842 (by decide +kernel) (by decide +kernel)
theorem lk_RX6_67 : Cond.methodLink RX6 67 yX6_begin ∈ gw := mem_gw 738 (by decide +kernel) (by decide +kernel)
theorem lk_RX6_71 : Cond.methodLink RX6 71 yX7_keep ∈ gw := mem_gw 754 (by decide +kernel) (by decide +kernel)
theorem lk_RX6_75 : Cond.methodLink RX6 75 yX6_note ∈ gw := mem_gw 778 (by decide +kernel) (by decide +kernel)
theorem lk_RX6_85 : Cond.methodLink RX6 85 yX7_unpack ∈ gw := mem_gw 805 (by decide +kernel) (by decide +kernel)
theorem lk_RX6_92 : Cond.methodLink RX6 92 yX1_take ∈ gw := mem_gw 812 (by decide +kernel) (by decide +kernel)
theorem lk_RX6_144 : Cond.methodLink RX6 144 yX6_depthOf ∈ gw := mem_gw 817 (by decide +kernel) (by decide +kernel)
theorem lk_RX6_3 : Cond.methodLink RX6 3 objectInit ∈ gw := mem_gw 272 (by decide +kernel) (by decide +kernel)
theorem lk_RX6_17 : Cond.methodLink RX6 17 yX1_init ∈ gw := mem_gw 274 (by decide +kernel) (by decide +kernel)
theorem lk_RX6_24 : (RX6, 24, yX7_init) ∈ gt_nest := (by decide +kernel)
theorem lk_RX6_108 : Cond.methodLink RX6 108 yX1_sticks ∈ gw := mem_gw 782 (by decide +kernel) (by decide +kernel)
theorem lk_RX6_115 : Cond.methodLink RX6 115 yX0_allSo ∈ gw := mem_gw 783 (by decide +kernel) (by decide +kernel)
theorem lk_RX6_121 : Cond.methodLink RX6 121 yX1_isOver ∈ gw := mem_gw 790 (by decide +kernel) (by decide +kernel)
theorem lk_RX6_124 : Cond.methodLink RX6 124 yX6_noteOutcome ∈ gw := mem_gw 791 (by decide +kernel) (by decide +kernel)
theorem lk_RX6_127 : Cond.methodLink RX6 127 yX6_noteMonitors ∈ gw := mem_gw 796 (by decide +kernel) (by decide +kernel)
theorem lk_RX6_137 : Cond.methodLink RX6 137 yX1_aboutToEnter ∈ gw := mem_gw 800 (by decide +kernel) (by decide +kernel)
theorem lk_RX6_130 : Cond.methodLink RX6 130 yX7_packedCells ∈ gw := mem_gw 795 (by decide +kernel) (by decide +kernel)
theorem lk_RX7_25 : Cond.methodLink RX7 25 yJ7_fill_53178 ∈ gw := mem_gw 752 (by decide +kernel) (by decide +kernel)
theorem lk_RX7_3 : Cond.methodLink RX7 3 objectInit ∈ gw := mem_gw 280 (by decide +kernel) (by decide +kernel)
theorem lk_RX7_31 : Cond.methodLink RX7 31 yX7_pack ∈ gw := mem_gw 758 (by decide +kernel) (by decide +kernel)
theorem lk_RX7_35 : Cond.methodLink RX7 35 yX7_firstSlot ∈ gw := mem_gw 768 (by decide +kernel) (by decide +kernel)
theorem lk_RX7_39 : Cond.methodLink RX7 39 yX7_isDraft ∈ gw := mem_gw 773 (by decide +kernel) (by decide +kernel)
theorem lk_RX7_43 : gt_CW RX7 43 := ⟨mem_gw 777 (by decide +kernel) (by decide +kernel), cw_nat, cw_sta, ini_RJ10⟩
theorem lk_RX7_50 : Cond.methodLink RX7 50 yX7_packedTask ∈ gw := mem_gw 762 (by decide +kernel) (by decide +kernel)
theorem lk_RX7_71 : Cond.methodLink RX7 71 yX7_packedCells ∈ gw := mem_gw 765 (by decide +kernel) (by decide +kernel)
theorem lk_RX7_84 : Cond.methodLink RX7 84 yX7_unpackedCell ∈ gw := mem_gw 809 (by decide +kernel) (by decide +kernel)
theorem lk_RX8_3 : Cond.methodLink RX8 3 objectInit ∈ gw := mem_gw 204 (by decide +kernel) (by decide +kernel)
theorem lk_RX9_3 : Cond.methodLink RX9 3 objectInit ∈ gw := mem_gw 236 (by decide +kernel) (by decide +kernel)
theorem lk_RX9_22 : Cond.methodLink RX9 22 yX9_append ∈ gw := mem_gw 581 (by decide +kernel) (by decide +kernel)
theorem in_X0 : ∀ w ∈ u_ws RX0 TX0 4, w ∈ gw := by decide +kernel
theorem in_X1 : ∀ w ∈ u_ws RX1 TX1 14, w ∈ gw := by decide +kernel
theorem in_X2 : ∀ w ∈ u_ws RX2 TX2 2, w ∈ gw := by decide +kernel
theorem in_X3 : ∀ w ∈ u_ws RX3 TX3 2, w ∈ gw := by decide +kernel
theorem in_X4 : ∀ w ∈ u_ws RX4 TX4 4, w ∈ gw := by decide +kernel
theorem in_X6 : ∀ w ∈ u_ws RX6 TX6 15, w ∈ gw := by decide +kernel
theorem in_X7 : ∀ w ∈ u_ws RX7 TX7 4, w ∈ gw := by decide +kernel
theorem in_X8 : ∀ w ∈ u_ws RX8 TX8 2, w ∈ gw := by decide +kernel
theorem in_X9 : ∀ w ∈ u_ws RX9 TX9 3, w ∈ gw := by decide +kernel
theorem in_X10 : ∀ w ∈ u_ws RX10 TX10 9, w ∈ gw := by decide +kernel
theorem in_X11 : ∀ w ∈ u_ws RX11 TX11 29, w ∈ gw := by decide +kernel
theorem fo_RX3_9 : FO RX3 9 3 0 false (.int) := ⟨RX3, TX3, 2, tyX3, rfl, (by decide +kernel), in_X3, mem_gw 108 (by decide +kernel) (by decide +kernel), tyX3_ok, nmX3, rfl, rfl, rfl⟩
theorem fo_RX4_32 : FO RX4 32 3 0 false (.int) := ⟨RX3, TX3, 2, tyX3, rfl, (by decide +kernel), in_X3, mem_gw 109 (by decide +kernel) (by decide +kernel), tyX3_ok, nmX3, rfl, rfl, rfl⟩
theorem fo_RX1_66 : FO RX1 66 3 0 false (.int) := ⟨RX3, TX3, 2, tyX3, rfl, (by decide +kernel), in_X3, mem_gw 110 (by decide +kernel) (by decide +kernel), tyX3_ok, nmX3, rfl, rfl, rfl⟩
theorem fo_RX10_127 : FO RX10 127 3 0 false (.int) := ⟨RX3, TX3, 2, tyX3, rfl, (by decide +kernel), in_X3, mem_gw 111 (by decide +kernel) (by decide +kernel), tyX3_ok, nmX3, rfl, rfl, rfl⟩
theorem fo_RX3_15 : FO RX3 15 3 1 true (.array .int) := ⟨RX3, TX3, 2, tyX3, rfl, (by decide +kernel), in_X3, mem_gw 112 (by decide +kernel) (by decide +kernel), tyX3_ok, nmX3, rfl, rfl, rfl⟩
theorem fo_RX1_9 : FO RX1 9 1 0 false (.int) := ⟨RX1, TX1, 14, tyX1, rfl, (by decide +kernel), in_X1, mem_gw 123 (by decide +kernel) (by decide +kernel), tyX1_ok, nmX1, rfl, rfl, rfl⟩
theorem fo_RX10_63 : FO RX10 63 1 0 false (.int) := ⟨RX1, TX1, 14, tyX1, rfl, (by decide +kernel), in_X1, mem_gw 124 (by decide +kernel) (by decide +kernel), tyX1_ok, nmX1, rfl, rfl, rfl⟩
theorem fo_RX6_82 : FO RX6 82 1 0 false (.int) := ⟨RX1, TX1, 14, tyX1, rfl, (by decide +kernel), in_X1, mem_gw 125 (by decide +kernel) (by decide +kernel), tyX1_ok, nmX1, rfl, rfl, rfl⟩
theorem fo_RX1_15 : FO RX1 15 1 1 false (.int) := ⟨RX1, TX1, 14, tyX1, rfl, (by decide +kernel), in_X1, mem_gw 126 (by decide +kernel) (by decide +kernel), tyX1_ok, nmX1, rfl, rfl, rfl⟩
theorem fo_RX10_209 : FO RX10 209 1 1 false (.int) := ⟨RX1, TX1, 14, tyX1, rfl, (by decide +kernel), in_X1, mem_gw 127 (by decide +kernel) (by decide +kernel), tyX1_ok, nmX1, rfl, rfl, rfl⟩
theorem fo_RX1_20 : FO RX1 20 1 2 true (.array (.object "GateTurns$Program")) := ⟨RX1, TX1, 14, tyX1, rfl, (by decide +kernel), in_X1, mem_gw 128 (by decide +kernel) (by decide +kernel), tyX1_ok, nmX1, rfl, rfl, rfl⟩
theorem fo_RX10_134 : FO RX10 134 1 2 true (.array (.object "GateTurns$Program")) := ⟨RX1, TX1, 14, tyX1, rfl, (by decide +kernel), in_X1, mem_gw 129 (by decide +kernel) (by decide +kernel), tyX1_ok, nmX1, rfl, rfl, rfl⟩
theorem fo_RX1_24 : FO RX1 24 1 3 true (.array .int) := ⟨RX1, TX1, 14, tyX1, rfl, (by decide +kernel), in_X1, mem_gw 130 (by decide +kernel) (by decide +kernel), tyX1_ok, nmX1, rfl, rfl, rfl⟩
theorem fo_RX7_75 : FO RX7 75 1 3 true (.array .int) := ⟨RX1, TX1, 14, tyX1, rfl, (by decide +kernel), in_X1, mem_gw 131 (by decide +kernel) (by decide +kernel), tyX1_ok, nmX1, rfl, rfl, rfl⟩
theorem fo_RX10_114 : FO RX10 114 1 3 true (.array .int) := ⟨RX1, TX1, 14, tyX1, rfl, (by decide +kernel), in_X1, mem_gw 132 (by decide +kernel) (by decide +kernel), tyX1_ok, nmX1, rfl, rfl, rfl⟩
theorem fo_RX1_28 : FO RX1 28 1 4 true (.array .int) := ⟨RX1, TX1, 14, tyX1, rfl, (by decide +kernel), in_X1, mem_gw 133 (by decide +kernel) (by decide +kernel), tyX1_ok, nmX1, rfl, rfl, rfl⟩
theorem fo_RX6_89 : FO RX6 89 1 4 true (.array .int) := ⟨RX1, TX1, 14, tyX1, rfl, (by decide +kernel), in_X1, mem_gw 134 (by decide +kernel) (by decide +kernel), tyX1_ok, nmX1, rfl, rfl, rfl⟩
theorem fo_RX7_78 : FO RX7 78 1 4 true (.array .int) := ⟨RX1, TX1, 14, tyX1, rfl, (by decide +kernel), in_X1, mem_gw 135 (by decide +kernel) (by decide +kernel), tyX1_ok, nmX1, rfl, rfl, rfl⟩
theorem fo_RX10_117 : FO RX10 117 1 4 true (.array .int) := ⟨RX1, TX1, 14, tyX1, rfl, (by decide +kernel), in_X1, mem_gw 136 (by decide +kernel) (by decide +kernel), tyX1_ok, nmX1, rfl, rfl, rfl⟩
theorem fo_RX1_31 : FO RX1 31 1 5 true (.array .int) := ⟨RX1, TX1, 14, tyX1, rfl, (by decide +kernel), in_X1, mem_gw 137 (by decide +kernel) (by decide +kernel), tyX1_ok, nmX1, rfl, rfl, rfl⟩
theorem fo_RX7_81 : FO RX7 81 1 5 true (.array .int) := ⟨RX1, TX1, 14, tyX1, rfl, (by decide +kernel), in_X1, mem_gw 138 (by decide +kernel) (by decide +kernel), tyX1_ok, nmX1, rfl, rfl, rfl⟩
theorem fo_RX10_163 : FO RX10 163 1 5 true (.array .int) := ⟨RX1, TX1, 14, tyX1, rfl, (by decide +kernel), in_X1, mem_gw 139 (by decide +kernel) (by decide +kernel), tyX1_ok, nmX1, rfl, rfl, rfl⟩
theorem fo_RX1_34 : FO RX1 34 1 6 true (.array .int) := ⟨RX1, TX1, 14, tyX1, rfl, (by decide +kernel), in_X1, mem_gw 140 (by decide +kernel) (by decide +kernel), tyX1_ok, nmX1, rfl, rfl, rfl⟩
theorem fo_RX10_169 : FO RX10 169 1 6 true (.array .int) := ⟨RX1, TX1, 14, tyX1, rfl, (by decide +kernel), in_X1, mem_gw 141 (by decide +kernel) (by decide +kernel), tyX1_ok, nmX1, rfl, rfl, rfl⟩
theorem fo_RX1_37 : FO RX1 37 1 7 true (.array .int) := ⟨RX1, TX1, 14, tyX1, rfl, (by decide +kernel), in_X1, mem_gw 142 (by decide +kernel) (by decide +kernel), tyX1_ok, nmX1, rfl, rfl, rfl⟩
theorem fo_RX10_172 : FO RX10 172 1 7 true (.array .int) := ⟨RX1, TX1, 14, tyX1, rfl, (by decide +kernel), in_X1, mem_gw 143 (by decide +kernel) (by decide +kernel), tyX1_ok, nmX1, rfl, rfl, rfl⟩
theorem fo_RX1_40 : FO RX1 40 1 8 true (.array .boolean) := ⟨RX1, TX1, 14, tyX1, rfl, (by decide +kernel), in_X1, mem_gw 144 (by decide +kernel) (by decide +kernel), tyX1_ok, nmX1, rfl, rfl, rfl⟩
theorem fo_RX10_84 : FO RX10 84 1 8 true (.array .boolean) := ⟨RX1, TX1, 14, tyX1, rfl, (by decide +kernel), in_X1, mem_gw 145 (by decide +kernel) (by decide +kernel), tyX1_ok, nmX1, rfl, rfl, rfl⟩
theorem fo_RX1_44 : FO RX1 44 1 9 true (.array .int) := ⟨RX1, TX1, 14, tyX1, rfl, (by decide +kernel), in_X1, mem_gw 146 (by decide +kernel) (by decide +kernel), tyX1_ok, nmX1, rfl, rfl, rfl⟩
theorem fo_RX7_54 : FO RX7 54 1 9 true (.array .int) := ⟨RX1, TX1, 14, tyX1, rfl, (by decide +kernel), in_X1, mem_gw 147 (by decide +kernel) (by decide +kernel), tyX1_ok, nmX1, rfl, rfl, rfl⟩
theorem fo_RX6_141 : FO RX6 141 1 9 true (.array .int) := ⟨RX1, TX1, 14, tyX1, rfl, (by decide +kernel), in_X1, mem_gw 148 (by decide +kernel) (by decide +kernel), tyX1_ok, nmX1, rfl, rfl, rfl⟩
theorem fo_RX10_178 : FO RX10 178 1 9 true (.array .int) := ⟨RX1, TX1, 14, tyX1, rfl, (by decide +kernel), in_X1, mem_gw 149 (by decide +kernel) (by decide +kernel), tyX1_ok, nmX1, rfl, rfl, rfl⟩
theorem fo_RX1_47 : FO RX1 47 1 10 true (.array .int) := ⟨RX1, TX1, 14, tyX1, rfl, (by decide +kernel), in_X1, mem_gw 150 (by decide +kernel) (by decide +kernel), tyX1_ok, nmX1, rfl, rfl, rfl⟩
theorem fo_RX7_59 : FO RX7 59 1 10 true (.array .int) := ⟨RX1, TX1, 14, tyX1, rfl, (by decide +kernel), in_X1, mem_gw 151 (by decide +kernel) (by decide +kernel), tyX1_ok, nmX1, rfl, rfl, rfl⟩
theorem fo_RX6_134 : FO RX6 134 1 10 true (.array .int) := ⟨RX1, TX1, 14, tyX1, rfl, (by decide +kernel), in_X1, mem_gw 152 (by decide +kernel) (by decide +kernel), tyX1_ok, nmX1, rfl, rfl, rfl⟩
theorem fo_RX10_181 : FO RX10 181 1 10 true (.array .int) := ⟨RX1, TX1, 14, tyX1, rfl, (by decide +kernel), in_X1, mem_gw 153 (by decide +kernel) (by decide +kernel), tyX1_ok, nmX1, rfl, rfl, rfl⟩
theorem fo_RX1_50 : FO RX1 50 1 11 true (.array .int) := ⟨RX1, TX1, 14, tyX1, rfl, (by decide +kernel), in_X1, mem_gw 154 (by decide +kernel) (by decide +kernel), tyX1_ok, nmX1, rfl, rfl, rfl⟩
theorem fo_RX7_62 : FO RX7 62 1 11 true (.array .int) := ⟨RX1, TX1, 14, tyX1, rfl, (by decide +kernel), in_X1, mem_gw 155 (by decide +kernel) (by decide +kernel), tyX1_ok, nmX1, rfl, rfl, rfl⟩
theorem fo_RX10_184 : FO RX10 184 1 11 true (.array .int) := ⟨RX1, TX1, 14, tyX1, rfl, (by decide +kernel), in_X1, mem_gw 156 (by decide +kernel) (by decide +kernel), tyX1_ok, nmX1, rfl, rfl, rfl⟩
theorem fo_RX1_53 : FO RX1 53 1 12 true (.array .int) := ⟨RX1, TX1, 14, tyX1, rfl, (by decide +kernel), in_X1, mem_gw 157 (by decide +kernel) (by decide +kernel), tyX1_ok, nmX1, rfl, rfl, rfl⟩
theorem fo_RX7_65 : FO RX7 65 1 12 true (.array .int) := ⟨RX1, TX1, 14, tyX1, rfl, (by decide +kernel), in_X1, mem_gw 158 (by decide +kernel) (by decide +kernel), tyX1_ok, nmX1, rfl, rfl, rfl⟩
theorem fo_RX10_192 : FO RX10 192 1 12 true (.array .int) := ⟨RX1, TX1, 14, tyX1, rfl, (by decide +kernel), in_X1, mem_gw 159 (by decide +kernel) (by decide +kernel), tyX1_ok, nmX1, rfl, rfl, rfl⟩
theorem fo_RX1_56 : FO RX1 56 1 13 true (.array .int) := ⟨RX1, TX1, 14, tyX1, rfl, (by decide +kernel), in_X1, mem_gw 160 (by decide +kernel) (by decide +kernel), tyX1_ok, nmX1, rfl, rfl, rfl⟩
theorem fo_RX10_98 : FO RX10 98 1 13 true (.array .int) := ⟨RX1, TX1, 14, tyX1, rfl, (by decide +kernel), in_X1, mem_gw 161 (by decide +kernel) (by decide +kernel), tyX1_ok, nmX1, rfl, rfl, rfl⟩
theorem fo_RX6_112 : FO RX6 112 1 13 true (.array .int) := ⟨RX1, TX1, 14, tyX1, rfl, (by decide +kernel), in_X1, mem_gw 162 (by decide +kernel) (by decide +kernel), tyX1_ok, nmX1, rfl, rfl, rfl⟩
theorem fo_RX7_68 : FO RX7 68 1 13 true (.array .int) := ⟨RX1, TX1, 14, tyX1, rfl, (by decide +kernel), in_X1, mem_gw 163 (by decide +kernel) (by decide +kernel), tyX1_ok, nmX1, rfl, rfl, rfl⟩
theorem fo_RX8_9 : FO RX8 9 7 0 true (.array .int) := ⟨RX8, TX8, 2, tyX8, rfl, (by decide +kernel), in_X8, mem_gw 205 (by decide +kernel) (by decide +kernel), tyX8_ok, nmX8, rfl, rfl, rfl⟩
theorem fo_RX8_15 : FO RX8 15 7 1 false (.int) := ⟨RX8, TX8, 2, tyX8, rfl, (by decide +kernel), in_X8, mem_gw 206 (by decide +kernel) (by decide +kernel), tyX8_ok, nmX8, rfl, rfl, rfl⟩
theorem fo_RX4_41 : FO RX4 41 7 1 false (.int) := ⟨RX8, TX8, 2, tyX8, rfl, (by decide +kernel), in_X8, mem_gw 207 (by decide +kernel) (by decide +kernel), tyX8_ok, nmX8, rfl, rfl, rfl⟩
theorem fo_RX10_102 : FO RX10 102 7 1 false (.int) := ⟨RX8, TX8, 2, tyX8, rfl, (by decide +kernel), in_X8, mem_gw 208 (by decide +kernel) (by decide +kernel), tyX8_ok, nmX8, rfl, rfl, rfl⟩
theorem fo_RX4_12 : FO RX4 12 4 0 true (.object "GateTurns$Tape") := ⟨RX4, TX4, 4, tyX4, rfl, (by decide +kernel), in_X4, mem_gw 216 (by decide +kernel) (by decide +kernel), tyX4_ok, nmX4, rfl, rfl, rfl⟩
theorem fo_RX10_30 : FO RX10 30 4 0 true (.object "GateTurns$Tape") := ⟨RX4, TX4, 4, tyX4, rfl, (by decide +kernel), in_X4, mem_gw 217 (by decide +kernel) (by decide +kernel), tyX4_ok, nmX4, rfl, rfl, rfl⟩
theorem fo_RX4_21 : FO RX4 21 4 1 true (.object "GateTurns$Program") := ⟨RX4, TX4, 4, tyX4, rfl, (by decide +kernel), in_X4, mem_gw 218 (by decide +kernel) (by decide +kernel), tyX4_ok, nmX4, rfl, rfl, rfl⟩
theorem fo_RX10_123 : FO RX10 123 4 1 true (.object "GateTurns$Program") := ⟨RX4, TX4, 4, tyX4, rfl, (by decide +kernel), in_X4, mem_gw 219 (by decide +kernel) (by decide +kernel), tyX4_ok, nmX4, rfl, rfl, rfl⟩
theorem fo_RX4_25 : FO RX4 25 4 2 false (.int) := ⟨RX4, TX4, 4, tyX4, rfl, (by decide +kernel), in_X4, mem_gw 220 (by decide +kernel) (by decide +kernel), tyX4_ok, nmX4, rfl, rfl, rfl⟩
theorem fo_RX4_29 : FO RX4 29 4 3 false (.int) := ⟨RX4, TX4, 4, tyX4, rfl, (by decide +kernel), in_X4, mem_gw 221 (by decide +kernel) (by decide +kernel), tyX4_ok, nmX4, rfl, rfl, rfl⟩
theorem fo_RX9_9 : FO RX9 9 8 0 false (.int) := ⟨RX9, TX9, 3, tyX9, rfl, (by decide +kernel), in_X9, mem_gw 237 (by decide +kernel) (by decide +kernel), tyX9_ok, nmX9, rfl, rfl, rfl⟩
theorem fo_RX9_15 : FO RX9 15 8 1 true (.array .int) := ⟨RX9, TX9, 3, tyX9, rfl, (by decide +kernel), in_X9, mem_gw 238 (by decide +kernel) (by decide +kernel), tyX9_ok, nmX9, rfl, rfl, rfl⟩
theorem fo_RX9_19 : FO RX9 19 8 2 true (.array .int) := ⟨RX9, TX9, 3, tyX9, rfl, (by decide +kernel), in_X9, mem_gw 239 (by decide +kernel) (by decide +kernel), tyX9_ok, nmX9, rfl, rfl, rfl⟩
theorem fo_RX0_9 : FO RX0 9 0 0 false (.int) := ⟨RX0, TX0, 4, tyX0, rfl, (by decide +kernel), in_X0, mem_gw 253 (by decide +kernel) (by decide +kernel), tyX0_ok, nmX0, rfl, rfl, rfl⟩
theorem fo_RX10_201 : FO RX10 201 0 0 false (.int) := ⟨RX0, TX0, 4, tyX0, rfl, (by decide +kernel), in_X0, mem_gw 254 (by decide +kernel) (by decide +kernel), tyX0_ok, nmX0, rfl, rfl, rfl⟩
theorem fo_RX0_15 : FO RX0 15 0 1 true (.array .int) := ⟨RX0, TX0, 4, tyX0, rfl, (by decide +kernel), in_X0, mem_gw 255 (by decide +kernel) (by decide +kernel), tyX0_ok, nmX0, rfl, rfl, rfl⟩
theorem fo_RX0_19 : FO RX0 19 0 2 true (.array .int) := ⟨RX0, TX0, 4, tyX0, rfl, (by decide +kernel), in_X0, mem_gw 256 (by decide +kernel) (by decide +kernel), tyX0_ok, nmX0, rfl, rfl, rfl⟩
theorem fo_RX0_22 : FO RX0 22 0 3 true (.array .int) := ⟨RX0, TX0, 4, tyX0, rfl, (by decide +kernel), in_X0, mem_gw 257 (by decide +kernel) (by decide +kernel), tyX0_ok, nmX0, rfl, rfl, rfl⟩
theorem fo_RX7_9 : FO RX7 9 6 0 false (.int) := ⟨RX7, TX7, 4, tyX7, rfl, (by decide +kernel), in_X7, mem_gw 281 (by decide +kernel) (by decide +kernel), tyX7_ok, nmX7, rfl, rfl, rfl⟩
theorem fo_RX6_79 : FO RX6 79 6 0 false (.int) := ⟨RX7, TX7, 4, tyX7, rfl, (by decide +kernel), in_X7, mem_gw 282 (by decide +kernel) (by decide +kernel), tyX7_ok, nmX7, rfl, rfl, rfl⟩
theorem fo_RX10_223 : FO RX10 223 6 0 false (.int) := ⟨RX7, TX7, 4, tyX7, rfl, (by decide +kernel), in_X7, mem_gw 283 (by decide +kernel) (by decide +kernel), tyX7_ok, nmX7, rfl, rfl, rfl⟩
theorem fo_RX7_15 : FO RX7 15 6 1 true (.array .int) := ⟨RX7, TX7, 4, tyX7, rfl, (by decide +kernel), in_X7, mem_gw 284 (by decide +kernel) (by decide +kernel), tyX7_ok, nmX7, rfl, rfl, rfl⟩
theorem fo_RX7_19 : FO RX7 19 6 2 true (.array .int) := ⟨RX7, TX7, 4, tyX7, rfl, (by decide +kernel), in_X7, mem_gw 285 (by decide +kernel) (by decide +kernel), tyX7_ok, nmX7, rfl, rfl, rfl⟩
theorem fo_RX7_22 : FO RX7 22 6 3 true (.array .int) := ⟨RX7, TX7, 4, tyX7, rfl, (by decide +kernel), in_X7, mem_gw 286 (by decide +kernel) (by decide +kernel), tyX7_ok, nmX7, rfl, rfl, rfl⟩
theorem fo_RX6_9 : FO RX6 9 5 0 false (.boolean) := ⟨RX6, TX6, 15, tyX6, rfl, (by decide +kernel), in_X6, mem_gw 296 (by decide +kernel) (by decide +kernel), tyX6_ok, nmX6, rfl, rfl, rfl⟩
theorem fo_RX6_18 : FO RX6 18 5 1 true (.object "GateTurns$Desk") := ⟨RX6, TX6, 15, tyX6, rfl, (by decide +kernel), in_X6, mem_gw 297 (by decide +kernel) (by decide +kernel), tyX6_ok, nmX6, rfl, rfl, rfl⟩
theorem fo_RX6_25 : FO RX6 25 5 2 true (.object "GateTurns$States") := ⟨RX6, TX6, 15, tyX6, rfl, (by decide +kernel), in_X6, mem_gw 298 (by decide +kernel) (by decide +kernel), tyX6_ok, nmX6, rfl, rfl, rfl⟩
theorem fo_RX10_219 : FO RX10 219 5 2 true (.object "GateTurns$States") := ⟨RX6, TX6, 15, tyX6, rfl, (by decide +kernel), in_X6, mem_gw 299 (by decide +kernel) (by decide +kernel), tyX6_ok, nmX6, rfl, rfl, rfl⟩
theorem fo_RX6_29 : FO RX6 29 5 3 true (.array .int) := ⟨RX6, TX6, 15, tyX6, rfl, (by decide +kernel), in_X6, mem_gw 300 (by decide +kernel) (by decide +kernel), tyX6_ok, nmX6, rfl, rfl, rfl⟩
theorem fo_RX6_33 : FO RX6 33 5 4 true (.array .int) := ⟨RX6, TX6, 15, tyX6, rfl, (by decide +kernel), in_X6, mem_gw 301 (by decide +kernel) (by decide +kernel), tyX6_ok, nmX6, rfl, rfl, rfl⟩
theorem fo_RX6_36 : FO RX6 36 5 5 true (.array .int) := ⟨RX6, TX6, 15, tyX6, rfl, (by decide +kernel), in_X6, mem_gw 302 (by decide +kernel) (by decide +kernel), tyX6_ok, nmX6, rfl, rfl, rfl⟩
theorem fo_RX6_39 : FO RX6 39 5 6 true (.array .int) := ⟨RX6, TX6, 15, tyX6, rfl, (by decide +kernel), in_X6, mem_gw 303 (by decide +kernel) (by decide +kernel), tyX6_ok, nmX6, rfl, rfl, rfl⟩
theorem fo_RX6_42 : FO RX6 42 5 7 true (.array .int) := ⟨RX6, TX6, 15, tyX6, rfl, (by decide +kernel), in_X6, mem_gw 304 (by decide +kernel) (by decide +kernel), tyX6_ok, nmX6, rfl, rfl, rfl⟩
theorem fo_RX10_259 : FO RX10 259 5 7 true (.array .int) := ⟨RX6, TX6, 15, tyX6, rfl, (by decide +kernel), in_X6, mem_gw 305 (by decide +kernel) (by decide +kernel), tyX6_ok, nmX6, rfl, rfl, rfl⟩
theorem fo_RX6_45 : FO RX6 45 5 8 false (.boolean) := ⟨RX6, TX6, 15, tyX6, rfl, (by decide +kernel), in_X6, mem_gw 306 (by decide +kernel) (by decide +kernel), tyX6_ok, nmX6, rfl, rfl, rfl⟩
theorem fo_RX10_226 : FO RX10 226 5 8 false (.boolean) := ⟨RX6, TX6, 15, tyX6, rfl, (by decide +kernel), in_X6, mem_gw 307 (by decide +kernel) (by decide +kernel), tyX6_ok, nmX6, rfl, rfl, rfl⟩
theorem fo_RX6_48 : FO RX6 48 5 9 false (.boolean) := ⟨RX6, TX6, 15, tyX6, rfl, (by decide +kernel), in_X6, mem_gw 308 (by decide +kernel) (by decide +kernel), tyX6_ok, nmX6, rfl, rfl, rfl⟩
theorem fo_RX10_250 : FO RX10 250 5 9 false (.boolean) := ⟨RX6, TX6, 15, tyX6, rfl, (by decide +kernel), in_X6, mem_gw 309 (by decide +kernel) (by decide +kernel), tyX6_ok, nmX6, rfl, rfl, rfl⟩
theorem fo_RX6_51 : FO RX6 51 5 10 false (.int) := ⟨RX6, TX6, 15, tyX6, rfl, (by decide +kernel), in_X6, mem_gw 310 (by decide +kernel) (by decide +kernel), tyX6_ok, nmX6, rfl, rfl, rfl⟩
theorem fo_RX10_238 : FO RX10 238 5 10 false (.int) := ⟨RX6, TX6, 15, tyX6, rfl, (by decide +kernel), in_X6, mem_gw 311 (by decide +kernel) (by decide +kernel), tyX6_ok, nmX6, rfl, rfl, rfl⟩
theorem fo_RX6_55 : FO RX6 55 5 11 false (.int) := ⟨RX6, TX6, 15, tyX6, rfl, (by decide +kernel), in_X6, mem_gw 312 (by decide +kernel) (by decide +kernel), tyX6_ok, nmX6, rfl, rfl, rfl⟩
theorem fo_RX10_244 : FO RX10 244 5 11 false (.int) := ⟨RX6, TX6, 15, tyX6, rfl, (by decide +kernel), in_X6, mem_gw 313 (by decide +kernel) (by decide +kernel), tyX6_ok, nmX6, rfl, rfl, rfl⟩
theorem fo_RX6_58 : FO RX6 58 5 12 false (.int) := ⟨RX6, TX6, 15, tyX6, rfl, (by decide +kernel), in_X6, mem_gw 314 (by decide +kernel) (by decide +kernel), tyX6_ok, nmX6, rfl, rfl, rfl⟩
theorem fo_RX10_229 : FO RX10 229 5 12 false (.int) := ⟨RX6, TX6, 15, tyX6, rfl, (by decide +kernel), in_X6, mem_gw 315 (by decide +kernel) (by decide +kernel), tyX6_ok, nmX6, rfl, rfl, rfl⟩
theorem fo_RX6_61 : FO RX6 61 5 13 false (.int) := ⟨RX6, TX6, 15, tyX6, rfl, (by decide +kernel), in_X6, mem_gw 316 (by decide +kernel) (by decide +kernel), tyX6_ok, nmX6, rfl, rfl, rfl⟩
theorem fo_RX10_232 : FO RX10 232 5 13 false (.int) := ⟨RX6, TX6, 15, tyX6, rfl, (by decide +kernel), in_X6, mem_gw 317 (by decide +kernel) (by decide +kernel), tyX6_ok, nmX6, rfl, rfl, rfl⟩
theorem fo_RX6_64 : FO RX6 64 5 14 false (.int) := ⟨RX6, TX6, 15, tyX6, rfl, (by decide +kernel), in_X6, mem_gw 318 (by decide +kernel) (by decide +kernel), tyX6_ok, nmX6, rfl, rfl, rfl⟩
theorem fo_RX10_247 : FO RX10 247 5 14 false (.int) := ⟨RX6, TX6, 15, tyX6, rfl, (by decide +kernel), in_X6, mem_gw 319 (by decide +kernel) (by decide +kernel), tyX6_ok, nmX6, rfl, rfl, rfl⟩
theorem fo_RX2_9 : FO RX2 9 2 0 true (.array .int) := ⟨RX2, TX2, 2, tyX2, rfl, (by decide +kernel), in_X2, mem_gw 360 (by decide +kernel) (by decide +kernel), tyX2_ok, nmX2, rfl, rfl, rfl⟩
theorem fo_RX10_156 : FO RX10 156 2 0 true (.array .int) := ⟨RX2, TX2, 2, tyX2, rfl, (by decide +kernel), in_X2, mem_gw 361 (by decide +kernel) (by decide +kernel), tyX2_ok, nmX2, rfl, rfl, rfl⟩
theorem fo_RX2_17 : FO RX2 17 2 1 true (.array (.array .int)) := ⟨RX2, TX2, 2, tyX2, rfl, (by decide +kernel), in_X2, mem_gw 362 (by decide +kernel) (by decide +kernel), tyX2_ok, nmX2, rfl, rfl, rfl⟩
theorem fo_RX10_159 : FO RX10 159 2 1 true (.array (.array .int)) := ⟨RX2, TX2, 2, tyX2, rfl, (by decide +kernel), in_X2, mem_gw 363 (by decide +kernel) (by decide +kernel), tyX2_ok, nmX2, rfl, rfl, rfl⟩
theorem fo_RX10_10 : FO RX10 10 9 0 true (.object "GateTurns$Desk") := ⟨RX10, TX10, 9, tyX10, rfl, (by decide +kernel), in_X10, mem_gw 369 (by decide +kernel) (by decide +kernel), tyX10_ok, nmX10, rfl, rfl, rfl⟩
theorem fo_RX10_16 : FO RX10 16 9 1 true (.object "GateTurns$Desk") := ⟨RX10, TX10, 9, tyX10, rfl, (by decide +kernel), in_X10, mem_gw 370 (by decide +kernel) (by decide +kernel), tyX10_ok, nmX10, rfl, rfl, rfl⟩
theorem fo_RX10_19 : FO RX10 19 9 2 false (.boolean) := ⟨RX10, TX10, 9, tyX10, rfl, (by decide +kernel), in_X10, mem_gw 371 (by decide +kernel) (by decide +kernel), tyX10_ok, nmX10, rfl, rfl, rfl⟩
theorem fo_RX10_26 : FO RX10 26 9 3 true (.object "GateTurns$Reader") := ⟨RX10, TX10, 9, tyX10, rfl, (by decide +kernel), in_X10, mem_gw 372 (by decide +kernel) (by decide +kernel), tyX10_ok, nmX10, rfl, rfl, rfl⟩
theorem fo_RX10_34 : FO RX10 34 9 4 true (.object "GateTurns$Tape") := ⟨RX10, TX10, 9, tyX10, rfl, (by decide +kernel), in_X10, mem_gw 373 (by decide +kernel) (by decide +kernel), tyX10_ok, nmX10, rfl, rfl, rfl⟩
theorem fo_RX10_38 : FO RX10 38 9 5 true (.object "GateTurns$Trouble") := ⟨RX10, TX10, 9, tyX10, rfl, (by decide +kernel), in_X10, mem_gw 374 (by decide +kernel) (by decide +kernel), tyX10_ok, nmX10, rfl, rfl, rfl⟩
theorem fo_RX10_45 : FO RX10 45 9 6 true (.object "GateTurns$Conditions") := ⟨RX10, TX10, 9, tyX10, rfl, (by decide +kernel), in_X10, mem_gw 375 (by decide +kernel) (by decide +kernel), tyX10_ok, nmX10, rfl, rfl, rfl⟩
theorem fo_RX10_52 : FO RX10 52 9 7 true (.object "GateTurns$Search") := ⟨RX10, TX10, 9, tyX10, rfl, (by decide +kernel), in_X10, mem_gw 376 (by decide +kernel) (by decide +kernel), tyX10_ok, nmX10, rfl, rfl, rfl⟩
theorem fo_RX10_59 : FO RX10 59 9 8 true (.object "GateTurns$Lists") := ⟨RX10, TX10, 9, tyX10, rfl, (by decide +kernel), in_X10, mem_gw 377 (by decide +kernel) (by decide +kernel), tyX10_ok, nmX10, rfl, rfl, rfl⟩
theorem fo_RX11_9 : FO RX11 9 10 0 true (.array .int) := ⟨RX11, TX11, 29, tyX11, rfl, (by decide +kernel), in_X11, mem_gw 906 (by decide +kernel) (by decide +kernel), tyX11_ok, nmX11, rfl, rfl, rfl⟩
theorem fo_RX11_13 : FO RX11 13 10 1 true (.array .int) := ⟨RX11, TX11, 29, tyX11, rfl, (by decide +kernel), in_X11, mem_gw 907 (by decide +kernel) (by decide +kernel), tyX11_ok, nmX11, rfl, rfl, rfl⟩
theorem fo_RX11_16 : FO RX11 16 10 2 true (.array .int) := ⟨RX11, TX11, 29, tyX11, rfl, (by decide +kernel), in_X11, mem_gw 908 (by decide +kernel) (by decide +kernel), tyX11_ok, nmX11, rfl, rfl, rfl⟩
theorem fo_RX11_19 : FO RX11 19 10 3 true (.array .int) := ⟨RX11, TX11, 29, tyX11, rfl, (by decide +kernel), in_X11, mem_gw 909 (by decide +kernel) (by decide +kernel), tyX11_ok, nmX11, rfl, rfl, rfl⟩
theorem fo_RX11_22 : FO RX11 22 10 4 true (.array .int) := ⟨RX11, TX11, 29, tyX11, rfl, (by decide +kernel), in_X11, mem_gw 910 (by decide +kernel) (by decide +kernel), tyX11_ok, nmX11, rfl, rfl, rfl⟩
theorem fo_RX11_289 : FO RX11 289 10 5 false (.boolean) := ⟨RX11, TX11, 29, tyX11, rfl, (by decide +kernel), in_X11, mem_gw 911 (by decide +kernel) (by decide +kernel), tyX11_ok, nmX11, rfl, rfl, rfl⟩
theorem fo_RX11_25 : FO RX11 25 10 6 true (.array .int) := ⟨RX11, TX11, 29, tyX11, rfl, (by decide +kernel), in_X11, mem_gw 912 (by decide +kernel) (by decide +kernel), tyX11_ok, nmX11, rfl, rfl, rfl⟩
theorem fo_RX11_28 : FO RX11 28 10 7 true (.array .int) := ⟨RX11, TX11, 29, tyX11, rfl, (by decide +kernel), in_X11, mem_gw 913 (by decide +kernel) (by decide +kernel), tyX11_ok, nmX11, rfl, rfl, rfl⟩
theorem fo_RX11_31 : FO RX11 31 10 8 true (.array .int) := ⟨RX11, TX11, 29, tyX11, rfl, (by decide +kernel), in_X11, mem_gw 914 (by decide +kernel) (by decide +kernel), tyX11_ok, nmX11, rfl, rfl, rfl⟩
theorem fo_RX11_85 : FO RX11 85 10 9 false (.int) := ⟨RX11, TX11, 29, tyX11, rfl, (by decide +kernel), in_X11, mem_gw 915 (by decide +kernel) (by decide +kernel), tyX11_ok, nmX11, rfl, rfl, rfl⟩
theorem fo_RX11_89 : FO RX11 89 10 10 false (.int) := ⟨RX11, TX11, 29, tyX11, rfl, (by decide +kernel), in_X11, mem_gw 916 (by decide +kernel) (by decide +kernel), tyX11_ok, nmX11, rfl, rfl, rfl⟩
theorem fo_RX11_92 : FO RX11 92 10 11 false (.int) := ⟨RX11, TX11, 29, tyX11, rfl, (by decide +kernel), in_X11, mem_gw 917 (by decide +kernel) (by decide +kernel), tyX11_ok, nmX11, rfl, rfl, rfl⟩
theorem fo_RX11_136 : FO RX11 136 10 12 false (.int) := ⟨RX11, TX11, 29, tyX11, rfl, (by decide +kernel), in_X11, mem_gw 918 (by decide +kernel) (by decide +kernel), tyX11_ok, nmX11, rfl, rfl, rfl⟩
theorem fo_RX11_34 : FO RX11 34 10 13 true (.array .int) := ⟨RX11, TX11, 29, tyX11, rfl, (by decide +kernel), in_X11, mem_gw 919 (by decide +kernel) (by decide +kernel), tyX11_ok, nmX11, rfl, rfl, rfl⟩
theorem fo_RX11_37 : FO RX11 37 10 14 true (.array .int) := ⟨RX11, TX11, 29, tyX11, rfl, (by decide +kernel), in_X11, mem_gw 920 (by decide +kernel) (by decide +kernel), tyX11_ok, nmX11, rfl, rfl, rfl⟩
theorem fo_RX11_130 : FO RX11 130 10 15 false (.int) := ⟨RX11, TX11, 29, tyX11, rfl, (by decide +kernel), in_X11, mem_gw 921 (by decide +kernel) (by decide +kernel), tyX11_ok, nmX11, rfl, rfl, rfl⟩
theorem fo_RX11_166 : FO RX11 166 10 16 false (.int) := ⟨RX11, TX11, 29, tyX11, rfl, (by decide +kernel), in_X11, mem_gw 922 (by decide +kernel) (by decide +kernel), tyX11_ok, nmX11, rfl, rfl, rfl⟩
theorem fo_RX11_157 : FO RX11 157 10 17 false (.int) := ⟨RX11, TX11, 29, tyX11, rfl, (by decide +kernel), in_X11, mem_gw 923 (by decide +kernel) (by decide +kernel), tyX11_ok, nmX11, rfl, rfl, rfl⟩
theorem fo_RX11_40 : FO RX11 40 10 18 true (.array .int) := ⟨RX11, TX11, 29, tyX11, rfl, (by decide +kernel), in_X11, mem_gw 924 (by decide +kernel) (by decide +kernel), tyX11_ok, nmX11, rfl, rfl, rfl⟩
theorem fo_RX11_43 : FO RX11 43 10 19 true (.array .int) := ⟨RX11, TX11, 29, tyX11, rfl, (by decide +kernel), in_X11, mem_gw 925 (by decide +kernel) (by decide +kernel), tyX11_ok, nmX11, rfl, rfl, rfl⟩
theorem fo_RX11_46 : FO RX11 46 10 20 true (.array .int) := ⟨RX11, TX11, 29, tyX11, rfl, (by decide +kernel), in_X11, mem_gw 926 (by decide +kernel) (by decide +kernel), tyX11_ok, nmX11, rfl, rfl, rfl⟩
theorem fo_RX11_49 : FO RX11 49 10 21 true (.array .int) := ⟨RX11, TX11, 29, tyX11, rfl, (by decide +kernel), in_X11, mem_gw 927 (by decide +kernel) (by decide +kernel), tyX11_ok, nmX11, rfl, rfl, rfl⟩
theorem fo_RX11_52 : FO RX11 52 10 22 true (.array .int) := ⟨RX11, TX11, 29, tyX11, rfl, (by decide +kernel), in_X11, mem_gw 928 (by decide +kernel) (by decide +kernel), tyX11_ok, nmX11, rfl, rfl, rfl⟩
theorem fo_RX11_231 : FO RX11 231 10 23 false (.int) := ⟨RX11, TX11, 29, tyX11, rfl, (by decide +kernel), in_X11, mem_gw 929 (by decide +kernel) (by decide +kernel), tyX11_ok, nmX11, rfl, rfl, rfl⟩
theorem fo_RX11_234 : FO RX11 234 10 24 false (.boolean) := ⟨RX11, TX11, 29, tyX11, rfl, (by decide +kernel), in_X11, mem_gw 930 (by decide +kernel) (by decide +kernel), tyX11_ok, nmX11, rfl, rfl, rfl⟩
theorem fo_RX11_55 : FO RX11 55 10 25 true (.array .int) := ⟨RX11, TX11, 29, tyX11, rfl, (by decide +kernel), in_X11, mem_gw 931 (by decide +kernel) (by decide +kernel), tyX11_ok, nmX11, rfl, rfl, rfl⟩
theorem fo_RX11_218 : FO RX11 218 10 26 false (.int) := ⟨RX11, TX11, 29, tyX11, rfl, (by decide +kernel), in_X11, mem_gw 932 (by decide +kernel) (by decide +kernel), tyX11_ok, nmX11, rfl, rfl, rfl⟩
theorem fo_RX11_58 : FO RX11 58 10 27 true (.array .int) := ⟨RX11, TX11, 29, tyX11, rfl, (by decide +kernel), in_X11, mem_gw 933 (by decide +kernel) (by decide +kernel), tyX11_ok, nmX11, rfl, rfl, rfl⟩
theorem fo_RX11_61 : FO RX11 61 10 28 true (.array .int) := ⟨RX11, TX11, 29, tyX11, rfl, (by decide +kernel), in_X11, mem_gw 934 (by decide +kernel) (by decide +kernel), tyX11_ok, nmX11, rfl, rfl, rfl⟩
theorem k_RX7_49 : Cond.constant RX7 49 (-1640531535) ∈ gw := mem_gw 772 (by decide +kernel) (by decide +kernel)
theorem k_RX10_282 : Cond.constant RX10 282 (-1000000) ∈ gw := mem_gw 889 (by decide +kernel) (by decide +kernel)
theorem k_RX11_68 : Cond.constantLong RX11 68 (2) ∈ gw := mem_gw 1009 (by decide +kernel) (by decide +kernel)
theorem k_RX11_70 : Cond.constantLong RX11 70 (3) ∈ gw := mem_gw 1020 (by decide +kernel) (by decide +kernel)
theorem k_RX11_79 : Cond.constantLong RX11 79 (-99) ∈ gw := mem_gw 1021 (by decide +kernel) (by decide +kernel)
theorem k_RX11_81 : Cond.constantLong RX11 81 (99) ∈ gw := mem_gw 1022 (by decide +kernel) (by decide +kernel)
theorem k_RX11_83 : Cond.constantLong RX11 83 (127) ∈ gw := mem_gw 1031 (by decide +kernel) (by decide +kernel)
theorem k_RX11_103 : Cond.constantLong RX11 103 (97) ∈ gw := mem_gw 1056 (by decide +kernel) (by decide +kernel)
theorem k_RX11_105 : Cond.constantLong RX11 105 (122) ∈ gw := mem_gw 1057 (by decide +kernel) (by decide +kernel)
theorem k_RX11_115 : Cond.constantLong RX11 115 (48) ∈ gw := mem_gw 1074 (by decide +kernel) (by decide +kernel)
theorem k_RX11_117 : Cond.constantLong RX11 117 (57) ∈ gw := mem_gw 1075 (by decide +kernel) (by decide +kernel)
theorem k_RX11_126 : Cond.constantLong RX11 126 (5) ∈ gw := mem_gw 1076 (by decide +kernel) (by decide +kernel)
theorem k_RX11_128 : Cond.constantLong RX11 128 (7) ∈ gw := mem_gw 1077 (by decide +kernel) (by decide +kernel)
theorem k_RX11_197 : Cond.constantLong RX11 197 (40) ∈ gw := mem_gw 1145 (by decide +kernel) (by decide +kernel)
theorem k_RX11_213 : Cond.constantLong RX11 213 (4) ∈ gw := mem_gw 1181 (by decide +kernel) (by decide +kernel)
theorem k_RX11_250 : Cond.constantLong RX11 250 (8) ∈ gw := mem_gw 1206 (by decide +kernel) (by decide +kernel)
theorem k_RX11_288 : Cond.constant RX11 288 (-1000000) ∈ gw := mem_gw 1310 (by decide +kernel) (by decide +kernel)
end
