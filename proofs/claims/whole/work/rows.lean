section
-- ===== PART A: goes FIRST, ahead of the names: the tables' words, and 'selects' of the private methods out of them =====
/-- a private method of a class that the tables say can be made, by its rows of tables_1 -/
def lw_okq (q : MethodName × Nat) : Prop := (q.1.cls ≠ "java/lang/invoke/MethodHandle" ∧ q.1.cls ≠ "java/lang/invoke/VarHandle") ∧ Cond.instantiable q.1.cls q.2 ∈ tables_1 ∧ Cond.privateMethod q.1 ∈ tables_1 ∧ Cond.instanceMethod q.1 ∈ tables_1
theorem lw_p0 : lw_okq (⟨"GateTurns", "isTask", "(I)Z"⟩, 9) := ⟨⟨by decide +kernel, by decide +kernel⟩, List.mem_of_getElem? (i := 21) (by decide +kernel), List.mem_of_getElem? (i := 399) (by decide +kernel), List.mem_of_getElem? (i := 400) (by decide +kernel)⟩
theorem lw_p1 : lw_okq (⟨"GateTurns$Reader", "readStatement", "()V"⟩, 4) := ⟨⟨by decide +kernel, by decide +kernel⟩, List.mem_of_getElem? (i := 127) (by decide +kernel), List.mem_of_getElem? (i := 407) (by decide +kernel), List.mem_of_getElem? (i := 408) (by decide +kernel)⟩
theorem lw_p2 : lw_okq (⟨"GateTurns$Reader", "readWord", "()I"⟩, 4) := ⟨⟨by decide +kernel, by decide +kernel⟩, List.mem_of_getElem? (i := 127) (by decide +kernel), List.mem_of_getElem? (i := 411) (by decide +kernel), List.mem_of_getElem? (i := 412) (by decide +kernel)⟩
theorem lw_p3 : lw_okq (⟨"GateTurns$Reader", "isWord", "(Ljava/lang/String;I)Z"⟩, 4) := ⟨⟨by decide +kernel, by decide +kernel⟩, List.mem_of_getElem? (i := 127) (by decide +kernel), List.mem_of_getElem? (i := 431) (by decide +kernel), List.mem_of_getElem? (i := 432) (by decide +kernel)⟩
theorem lw_p4 : lw_okq (⟨"GateTurns$Reader", "readTarget", "()I"⟩, 4) := ⟨⟨by decide +kernel, by decide +kernel⟩, List.mem_of_getElem? (i := 127) (by decide +kernel), List.mem_of_getElem? (i := 483) (by decide +kernel), List.mem_of_getElem? (i := 484) (by decide +kernel)⟩
theorem lw_p5 : lw_okq (⟨"GateTurns$Reader", "readBlank", "()V"⟩, 4) := ⟨⟨by decide +kernel, by decide +kernel⟩, List.mem_of_getElem? (i := 127) (by decide +kernel), List.mem_of_getElem? (i := 487) (by decide +kernel), List.mem_of_getElem? (i := 488) (by decide +kernel)⟩
theorem lw_p6 : lw_okq (⟨"GateTurns$Reader", "takeFigures", "(I)I"⟩, 4) := ⟨⟨by decide +kernel, by decide +kernel⟩, List.mem_of_getElem? (i := 127) (by decide +kernel), List.mem_of_getElem? (i := 491) (by decide +kernel), List.mem_of_getElem? (i := 492) (by decide +kernel)⟩
theorem lw_p7 : lw_okq (⟨"GateTurns$Reader", "allowed", "(III)I"⟩, 4) := ⟨⟨by decide +kernel, by decide +kernel⟩, List.mem_of_getElem? (i := 127) (by decide +kernel), List.mem_of_getElem? (i := 495) (by decide +kernel), List.mem_of_getElem? (i := 496) (by decide +kernel)⟩
theorem lw_p8 : lw_okq (⟨"GateTurns$Reader", "readFigureBelow", "(I)I"⟩, 4) := ⟨⟨by decide +kernel, by decide +kernel⟩, List.mem_of_getElem? (i := 127) (by decide +kernel), List.mem_of_getElem? (i := 499) (by decide +kernel), List.mem_of_getElem? (i := 500) (by decide +kernel)⟩
theorem lw_p9 : lw_okq (⟨"GateTurns$Reader", "readNumber", "()I"⟩, 4) := ⟨⟨by decide +kernel, by decide +kernel⟩, List.mem_of_getElem? (i := 127) (by decide +kernel), List.mem_of_getElem? (i := 503) (by decide +kernel), List.mem_of_getElem? (i := 504) (by decide +kernel)⟩
theorem lw_p10 : lw_okq (⟨"GateTurns$Trouble", "append", "(II)V"⟩, 3) := ⟨⟨by decide +kernel, by decide +kernel⟩, List.mem_of_getElem? (i := 165) (by decide +kernel), List.mem_of_getElem? (i := 515) (by decide +kernel), List.mem_of_getElem? (i := 516) (by decide +kernel)⟩
theorem lw_p11 : lw_okq (⟨"GateTurns", "takeTruly", "(I)V"⟩, 9) := ⟨⟨by decide +kernel, by decide +kernel⟩, List.mem_of_getElem? (i := 21) (by decide +kernel), List.mem_of_getElem? (i := 539) (by decide +kernel), List.mem_of_getElem? (i := 540) (by decide +kernel)⟩
theorem lw_p12 : lw_okq (⟨"GateTurns$Desk", "end", "(II)V"⟩, 14) := ⟨⟨by decide +kernel, by decide +kernel⟩, List.mem_of_getElem? (i := 29) (by decide +kernel), List.mem_of_getElem? (i := 547) (by decide +kernel), List.mem_of_getElem? (i := 548) (by decide +kernel)⟩
theorem lw_p13 : lw_okq (⟨"GateTurns$Desk", "free", "(I)V"⟩, 14) := ⟨⟨by decide +kernel, by decide +kernel⟩, List.mem_of_getElem? (i := 29) (by decide +kernel), List.mem_of_getElem? (i := 551) (by decide +kernel), List.mem_of_getElem? (i := 552) (by decide +kernel)⟩
theorem lw_p14 : lw_okq (⟨"GateTurns$Desk", "doAtMonitor", "(III)I"⟩, 14) := ⟨⟨by decide +kernel, by decide +kernel⟩, List.mem_of_getElem? (i := 29) (by decide +kernel), List.mem_of_getElem? (i := 562) (by decide +kernel), List.mem_of_getElem? (i := 563) (by decide +kernel)⟩
theorem lw_p15 : lw_okq (⟨"GateTurns$Desk", "enter", "(II)I"⟩, 14) := ⟨⟨by decide +kernel, by decide +kernel⟩, List.mem_of_getElem? (i := 29) (by decide +kernel), List.mem_of_getElem? (i := 566) (by decide +kernel), List.mem_of_getElem? (i := 567) (by decide +kernel)⟩
def lw_privs_1 : List (MethodName × Nat) := [(⟨"GateTurns", "isTask", "(I)Z"⟩, 9), (⟨"GateTurns$Reader", "readStatement", "()V"⟩, 4), (⟨"GateTurns$Reader", "readWord", "()I"⟩, 4), (⟨"GateTurns$Reader", "isWord", "(Ljava/lang/String;I)Z"⟩, 4), (⟨"GateTurns$Reader", "readTarget", "()I"⟩, 4), (⟨"GateTurns$Reader", "readBlank", "()V"⟩, 4), (⟨"GateTurns$Reader", "takeFigures", "(I)I"⟩, 4), (⟨"GateTurns$Reader", "allowed", "(III)I"⟩, 4), (⟨"GateTurns$Reader", "readFigureBelow", "(I)I"⟩, 4), (⟨"GateTurns$Reader", "readNumber", "()I"⟩, 4), (⟨"GateTurns$Trouble", "append", "(II)V"⟩, 3), (⟨"GateTurns", "takeTruly", "(I)V"⟩, 9), (⟨"GateTurns$Desk", "end", "(II)V"⟩, 14), (⟨"GateTurns$Desk", "free", "(I)V"⟩, 14), (⟨"GateTurns$Desk", "doAtMonitor", "(III)I"⟩, 14), (⟨"GateTurns$Desk", "enter", "(II)I"⟩, 14)]
theorem lw_r1 : ∀ q ∈ lw_privs_1, lw_okq q := List.forall_mem_cons.mpr ⟨lw_p0, List.forall_mem_cons.mpr ⟨lw_p1, List.forall_mem_cons.mpr ⟨lw_p2, List.forall_mem_cons.mpr ⟨lw_p3, List.forall_mem_cons.mpr ⟨lw_p4, List.forall_mem_cons.mpr ⟨lw_p5, List.forall_mem_cons.mpr ⟨lw_p6, List.forall_mem_cons.mpr ⟨lw_p7, List.forall_mem_cons.mpr ⟨lw_p8, List.forall_mem_cons.mpr ⟨lw_p9, List.forall_mem_cons.mpr ⟨lw_p10, List.forall_mem_cons.mpr ⟨lw_p11, List.forall_mem_cons.mpr ⟨lw_p12, List.forall_mem_cons.mpr ⟨lw_p13, List.forall_mem_cons.mpr ⟨lw_p14, List.forall_mem_cons.mpr ⟨lw_p15, fun _ h => absurd h List.not_mem_nil⟩⟩⟩⟩⟩⟩⟩⟩⟩⟩⟩⟩⟩⟩⟩⟩
theorem lw_p16 : lw_okq (⟨"GateTurns$Desk", "wake", "(II)V"⟩, 14) := ⟨⟨by decide +kernel, by decide +kernel⟩, List.mem_of_getElem? (i := 29) (by decide +kernel), List.mem_of_getElem? (i := 573) (by decide +kernel), List.mem_of_getElem? (i := 574) (by decide +kernel)⟩
theorem lw_p17 : lw_okq (⟨"GateTurns$Desk", "doWithCells", "(ILGateTurns$Program;I)I"⟩, 14) := ⟨⟨by decide +kernel, by decide +kernel⟩, List.mem_of_getElem? (i := 29) (by decide +kernel), List.mem_of_getElem? (i := 577) (by decide +kernel), List.mem_of_getElem? (i := 578) (by decide +kernel)⟩
theorem lw_p18 : lw_okq (⟨"GateTurns$Search", "begin", "(LGateTurns$Desk;)V"⟩, 15) := ⟨⟨by decide +kernel, by decide +kernel⟩, List.mem_of_getElem? (i := 201) (by decide +kernel), List.mem_of_getElem? (i := 672) (by decide +kernel), List.mem_of_getElem? (i := 673) (by decide +kernel)⟩
theorem lw_p19 : lw_okq (⟨"GateTurns$States", "pack", "(LGateTurns$Desk;)V"⟩, 4) := ⟨⟨by decide +kernel, by decide +kernel⟩, List.mem_of_getElem? (i := 209) (by decide +kernel), List.mem_of_getElem? (i := 692) (by decide +kernel), List.mem_of_getElem? (i := 693) (by decide +kernel)⟩
theorem lw_p20 : lw_okq (⟨"GateTurns$States", "firstSlot", "()I"⟩, 4) := ⟨⟨by decide +kernel, by decide +kernel⟩, List.mem_of_getElem? (i := 209) (by decide +kernel), List.mem_of_getElem? (i := 702) (by decide +kernel), List.mem_of_getElem? (i := 703) (by decide +kernel)⟩
theorem lw_p21 : lw_okq (⟨"GateTurns$States", "isDraft", "(I)Z"⟩, 4) := ⟨⟨by decide +kernel, by decide +kernel⟩, List.mem_of_getElem? (i := 209) (by decide +kernel), List.mem_of_getElem? (i := 707) (by decide +kernel), List.mem_of_getElem? (i := 708) (by decide +kernel)⟩
theorem lw_p22 : lw_okq (⟨"GateTurns$Search", "note", "(IIILGateTurns$Conditions;)V"⟩, 15) := ⟨⟨by decide +kernel, by decide +kernel⟩, List.mem_of_getElem? (i := 201) (by decide +kernel), List.mem_of_getElem? (i := 712) (by decide +kernel), List.mem_of_getElem? (i := 713) (by decide +kernel)⟩
theorem lw_p23 : lw_okq (⟨"GateTurns$Search", "noteOutcome", "()V"⟩, 15) := ⟨⟨by decide +kernel, by decide +kernel⟩, List.mem_of_getElem? (i := 201) (by decide +kernel), List.mem_of_getElem? (i := 725) (by decide +kernel), List.mem_of_getElem? (i := 726) (by decide +kernel)⟩
theorem lw_p24 : lw_okq (⟨"GateTurns$Search", "noteMonitors", "()V"⟩, 15) := ⟨⟨by decide +kernel, by decide +kernel⟩, List.mem_of_getElem? (i := 201) (by decide +kernel), List.mem_of_getElem? (i := 730) (by decide +kernel), List.mem_of_getElem? (i := 731) (by decide +kernel)⟩
theorem lw_p25 : lw_okq (⟨"GateTurnsModel", "isTask", "(I)Z"⟩, 29) := ⟨⟨by decide +kernel, by decide +kernel⟩, List.mem_of_getElem? (i := 834) (by decide +kernel), List.mem_of_getElem? (i := 974) (by decide +kernel), List.mem_of_getElem? (i := 975) (by decide +kernel)⟩
theorem lw_p26 : lw_okq (⟨"GateTurnsModel", "statement1", "(I)V"⟩, 29) := ⟨⟨by decide +kernel, by decide +kernel⟩, List.mem_of_getElem? (i := 834) (by decide +kernel), List.mem_of_getElem? (i := 978) (by decide +kernel), List.mem_of_getElem? (i := 979) (by decide +kernel)⟩
theorem lw_p27 : lw_okq (⟨"GateTurnsModel", "word", "()I"⟩, 29) := ⟨⟨by decide +kernel, by decide +kernel⟩, List.mem_of_getElem? (i := 834) (by decide +kernel), List.mem_of_getElem? (i := 982) (by decide +kernel), List.mem_of_getElem? (i := 983) (by decide +kernel)⟩
theorem lw_p28 : lw_okq (⟨"GateTurnsModel", "here", "()I"⟩, 29) := ⟨⟨by decide +kernel, by decide +kernel⟩, List.mem_of_getElem? (i := 834) (by decide +kernel), List.mem_of_getElem? (i := 986) (by decide +kernel), List.mem_of_getElem? (i := 987) (by decide +kernel)⟩
theorem lw_p29 : lw_okq (⟨"GateTurnsModel", "isWord", "(II)Z"⟩, 29) := ⟨⟨by decide +kernel, by decide +kernel⟩, List.mem_of_getElem? (i := 834) (by decide +kernel), List.mem_of_getElem? (i := 992) (by decide +kernel), List.mem_of_getElem? (i := 993) (by decide +kernel)⟩
theorem lw_p30 : lw_okq (⟨"GateTurnsModel", "must", "(ZI)V"⟩, 29) := ⟨⟨by decide +kernel, by decide +kernel⟩, List.mem_of_getElem? (i := 834) (by decide +kernel), List.mem_of_getElem? (i := 996) (by decide +kernel), List.mem_of_getElem? (i := 997) (by decide +kernel)⟩
theorem lw_p31 : lw_okq (⟨"GateTurnsModel", "number", "(IIZ)I"⟩, 29) := ⟨⟨by decide +kernel, by decide +kernel⟩, List.mem_of_getElem? (i := 834) (by decide +kernel), List.mem_of_getElem? (i := 1000) (by decide +kernel), List.mem_of_getElem? (i := 1001) (by decide +kernel)⟩
def lw_privs_2 : List (MethodName × Nat) := [(⟨"GateTurns$Desk", "wake", "(II)V"⟩, 14), (⟨"GateTurns$Desk", "doWithCells", "(ILGateTurns$Program;I)I"⟩, 14), (⟨"GateTurns$Search", "begin", "(LGateTurns$Desk;)V"⟩, 15), (⟨"GateTurns$States", "pack", "(LGateTurns$Desk;)V"⟩, 4), (⟨"GateTurns$States", "firstSlot", "()I"⟩, 4), (⟨"GateTurns$States", "isDraft", "(I)Z"⟩, 4), (⟨"GateTurns$Search", "note", "(IIILGateTurns$Conditions;)V"⟩, 15), (⟨"GateTurns$Search", "noteOutcome", "()V"⟩, 15), (⟨"GateTurns$Search", "noteMonitors", "()V"⟩, 15), (⟨"GateTurnsModel", "isTask", "(I)Z"⟩, 29), (⟨"GateTurnsModel", "statement1", "(I)V"⟩, 29), (⟨"GateTurnsModel", "word", "()I"⟩, 29), (⟨"GateTurnsModel", "here", "()I"⟩, 29), (⟨"GateTurnsModel", "isWord", "(II)Z"⟩, 29), (⟨"GateTurnsModel", "must", "(ZI)V"⟩, 29), (⟨"GateTurnsModel", "number", "(IIZ)I"⟩, 29)]
theorem lw_r2 : ∀ q ∈ lw_privs_2, lw_okq q := List.forall_mem_cons.mpr ⟨lw_p16, List.forall_mem_cons.mpr ⟨lw_p17, List.forall_mem_cons.mpr ⟨lw_p18, List.forall_mem_cons.mpr ⟨lw_p19, List.forall_mem_cons.mpr ⟨lw_p20, List.forall_mem_cons.mpr ⟨lw_p21, List.forall_mem_cons.mpr ⟨lw_p22, List.forall_mem_cons.mpr ⟨lw_p23, List.forall_mem_cons.mpr ⟨lw_p24, List.forall_mem_cons.mpr ⟨lw_p25, List.forall_mem_cons.mpr ⟨lw_p26, List.forall_mem_cons.mpr ⟨lw_p27, List.forall_mem_cons.mpr ⟨lw_p28, List.forall_mem_cons.mpr ⟨lw_p29, List.forall_mem_cons.mpr ⟨lw_p30, List.forall_mem_cons.mpr ⟨lw_p31, fun _ h => absurd h List.not_mem_nil⟩⟩⟩⟩⟩⟩⟩⟩⟩⟩⟩⟩⟩⟩⟩⟩
theorem lw_p32 : lw_okq (⟨"GateTurnsModel", "takes", "(I)V"⟩, 29) := ⟨⟨by decide +kernel, by decide +kernel⟩, List.mem_of_getElem? (i := 834) (by decide +kernel), List.mem_of_getElem? (i := 1004) (by decide +kernel), List.mem_of_getElem? (i := 1005) (by decide +kernel)⟩
theorem lw_p33 : lw_okq (⟨"GateTurnsModel", "tells", "(IIIII)V"⟩, 29) := ⟨⟨by decide +kernel, by decide +kernel⟩, List.mem_of_getElem? (i := 834) (by decide +kernel), List.mem_of_getElem? (i := 1012) (by decide +kernel), List.mem_of_getElem? (i := 1013) (by decide +kernel)⟩
theorem lw_p34 : lw_okq (⟨"GateTurnsModel", "field", "(III)I"⟩, 29) := ⟨⟨by decide +kernel, by decide +kernel⟩, List.mem_of_getElem? (i := 834) (by decide +kernel), List.mem_of_getElem? (i := 1023) (by decide +kernel), List.mem_of_getElem? (i := 1024) (by decide +kernel)⟩
theorem lw_p35 : lw_okq (⟨"GateTurnsModel", "isReady", "(I)Z"⟩, 29) := ⟨⟨by decide +kernel, by decide +kernel⟩, List.mem_of_getElem? (i := 834) (by decide +kernel), List.mem_of_getElem? (i := 1031) (by decide +kernel), List.mem_of_getElem? (i := 1032) (by decide +kernel)⟩
theorem lw_p36 : lw_okq (⟨"GateTurnsModel", "stepsTruly", "(I)V"⟩, 29) := ⟨⟨by decide +kernel, by decide +kernel⟩, List.mem_of_getElem? (i := 834) (by decide +kernel), List.mem_of_getElem? (i := 1035) (by decide +kernel), List.mem_of_getElem? (i := 1036) (by decide +kernel)⟩
theorem lw_p37 : lw_okq (⟨"GateTurnsModel", "steps", "(I)V"⟩, 29) := ⟨⟨by decide +kernel, by decide +kernel⟩, List.mem_of_getElem? (i := 834) (by decide +kernel), List.mem_of_getElem? (i := 1039) (by decide +kernel), List.mem_of_getElem? (i := 1040) (by decide +kernel)⟩
theorem lw_p38 : lw_okq (⟨"GateTurnsModel", "ends", "(II)V"⟩, 29) := ⟨⟨by decide +kernel, by decide +kernel⟩, List.mem_of_getElem? (i := 834) (by decide +kernel), List.mem_of_getElem? (i := 1043) (by decide +kernel), List.mem_of_getElem? (i := 1044) (by decide +kernel)⟩
theorem lw_p39 : lw_okq (⟨"GateTurnsModel", "isOwner", "(II)Z"⟩, 29) := ⟨⟨by decide +kernel, by decide +kernel⟩, List.mem_of_getElem? (i := 834) (by decide +kernel), List.mem_of_getElem? (i := 1047) (by decide +kernel), List.mem_of_getElem? (i := 1048) (by decide +kernel)⟩
theorem lw_p40 : lw_okq (⟨"GateTurnsModel", "frees", "(I)V"⟩, 29) := ⟨⟨by decide +kernel, by decide +kernel⟩, List.mem_of_getElem? (i := 834) (by decide +kernel), List.mem_of_getElem? (i := 1051) (by decide +kernel), List.mem_of_getElem? (i := 1052) (by decide +kernel)⟩
theorem lw_p41 : lw_okq (⟨"GateTurnsModel", "leaves", "(III)I"⟩, 29) := ⟨⟨by decide +kernel, by decide +kernel⟩, List.mem_of_getElem? (i := 834) (by decide +kernel), List.mem_of_getElem? (i := 1055) (by decide +kernel), List.mem_of_getElem? (i := 1056) (by decide +kernel)⟩
theorem lw_p42 : lw_okq (⟨"GateTurnsModel", "monitors", "(III)V"⟩, 29) := ⟨⟨by decide +kernel, by decide +kernel⟩, List.mem_of_getElem? (i := 834) (by decide +kernel), List.mem_of_getElem? (i := 1059) (by decide +kernel), List.mem_of_getElem? (i := 1060) (by decide +kernel)⟩
theorem lw_p43 : lw_okq (⟨"GateTurnsModel", "enters", "(II)V"⟩, 29) := ⟨⟨by decide +kernel, by decide +kernel⟩, List.mem_of_getElem? (i := 834) (by decide +kernel), List.mem_of_getElem? (i := 1063) (by decide +kernel), List.mem_of_getElem? (i := 1064) (by decide +kernel)⟩
theorem lw_p44 : lw_okq (⟨"GateTurnsModel", "comes", "(IIII)V"⟩, 29) := ⟨⟨by decide +kernel, by decide +kernel⟩, List.mem_of_getElem? (i := 834) (by decide +kernel), List.mem_of_getElem? (i := 1067) (by decide +kernel), List.mem_of_getElem? (i := 1068) (by decide +kernel)⟩
theorem lw_p45 : lw_okq (⟨"GateTurnsModel", "notifies", "(IZ)V"⟩, 29) := ⟨⟨by decide +kernel, by decide +kernel⟩, List.mem_of_getElem? (i := 834) (by decide +kernel), List.mem_of_getElem? (i := 1071) (by decide +kernel), List.mem_of_getElem? (i := 1072) (by decide +kernel)⟩
theorem lw_p46 : lw_okq (⟨"GateTurnsModel", "chosen", "(I)I"⟩, 29) := ⟨⟨by decide +kernel, by decide +kernel⟩, List.mem_of_getElem? (i := 834) (by decide +kernel), List.mem_of_getElem? (i := 1080) (by decide +kernel), List.mem_of_getElem? (i := 1081) (by decide +kernel)⟩
theorem lw_p47 : lw_okq (⟨"GateTurnsModel", "standsAt", "(I)I"⟩, 29) := ⟨⟨by decide +kernel, by decide +kernel⟩, List.mem_of_getElem? (i := 834) (by decide +kernel), List.mem_of_getElem? (i := 1095) (by decide +kernel), List.mem_of_getElem? (i := 1096) (by decide +kernel)⟩
def lw_privs_3 : List (MethodName × Nat) := [(⟨"GateTurnsModel", "takes", "(I)V"⟩, 29), (⟨"GateTurnsModel", "tells", "(IIIII)V"⟩, 29), (⟨"GateTurnsModel", "field", "(III)I"⟩, 29), (⟨"GateTurnsModel", "isReady", "(I)Z"⟩, 29), (⟨"GateTurnsModel", "stepsTruly", "(I)V"⟩, 29), (⟨"GateTurnsModel", "steps", "(I)V"⟩, 29), (⟨"GateTurnsModel", "ends", "(II)V"⟩, 29), (⟨"GateTurnsModel", "isOwner", "(II)Z"⟩, 29), (⟨"GateTurnsModel", "frees", "(I)V"⟩, 29), (⟨"GateTurnsModel", "leaves", "(III)I"⟩, 29), (⟨"GateTurnsModel", "monitors", "(III)V"⟩, 29), (⟨"GateTurnsModel", "enters", "(II)V"⟩, 29), (⟨"GateTurnsModel", "comes", "(IIII)V"⟩, 29), (⟨"GateTurnsModel", "notifies", "(IZ)V"⟩, 29), (⟨"GateTurnsModel", "chosen", "(I)I"⟩, 29), (⟨"GateTurnsModel", "standsAt", "(I)I"⟩, 29)]
theorem lw_r3 : ∀ q ∈ lw_privs_3, lw_okq q := List.forall_mem_cons.mpr ⟨lw_p32, List.forall_mem_cons.mpr ⟨lw_p33, List.forall_mem_cons.mpr ⟨lw_p34, List.forall_mem_cons.mpr ⟨lw_p35, List.forall_mem_cons.mpr ⟨lw_p36, List.forall_mem_cons.mpr ⟨lw_p37, List.forall_mem_cons.mpr ⟨lw_p38, List.forall_mem_cons.mpr ⟨lw_p39, List.forall_mem_cons.mpr ⟨lw_p40, List.forall_mem_cons.mpr ⟨lw_p41, List.forall_mem_cons.mpr ⟨lw_p42, List.forall_mem_cons.mpr ⟨lw_p43, List.forall_mem_cons.mpr ⟨lw_p44, List.forall_mem_cons.mpr ⟨lw_p45, List.forall_mem_cons.mpr ⟨lw_p46, List.forall_mem_cons.mpr ⟨lw_p47, fun _ h => absurd h List.not_mem_nil⟩⟩⟩⟩⟩⟩⟩⟩⟩⟩⟩⟩⟩⟩⟩⟩
theorem lw_p48 : lw_okq (⟨"GateTurnsModel", "ownedBy", "([III)I"⟩, 29) := ⟨⟨by decide +kernel, by decide +kernel⟩, List.mem_of_getElem? (i := 834) (by decide +kernel), List.mem_of_getElem? (i := 1099) (by decide +kernel), List.mem_of_getElem? (i := 1100) (by decide +kernel)⟩
theorem lw_p49 : lw_okq (⟨"GateTurnsModel", "areIn", "([III)I"⟩, 29) := ⟨⟨by decide +kernel, by decide +kernel⟩, List.mem_of_getElem? (i := 834) (by decide +kernel), List.mem_of_getElem? (i := 1116) (by decide +kernel), List.mem_of_getElem? (i := 1117) (by decide +kernel)⟩
theorem lw_p50 : lw_okq (⟨"GateTurnsModel", "sticks", "([II)Z"⟩, 29) := ⟨⟨by decide +kernel, by decide +kernel⟩, List.mem_of_getElem? (i := 834) (by decide +kernel), List.mem_of_getElem? (i := 1124) (by decide +kernel), List.mem_of_getElem? (i := 1125) (by decide +kernel)⟩
theorem lw_p51 : lw_okq (⟨"GateTurnsModel", "isOver", "([II)Z"⟩, 29) := ⟨⟨by decide +kernel, by decide +kernel⟩, List.mem_of_getElem? (i := 834) (by decide +kernel), List.mem_of_getElem? (i := 1128) (by decide +kernel), List.mem_of_getElem? (i := 1129) (by decide +kernel)⟩
theorem lw_p52 : lw_okq (⟨"GateTurnsModel", "findsAll", "()V"⟩, 29) := ⟨⟨by decide +kernel, by decide +kernel⟩, List.mem_of_getElem? (i := 834) (by decide +kernel), List.mem_of_getElem? (i := 1141) (by decide +kernel), List.mem_of_getElem? (i := 1142) (by decide +kernel)⟩
theorem lw_p53 : lw_okq (⟨"GateTurnsModel", "finds", "(II)V"⟩, 29) := ⟨⟨by decide +kernel, by decide +kernel⟩, List.mem_of_getElem? (i := 834) (by decide +kernel), List.mem_of_getElem? (i := 1145) (by decide +kernel), List.mem_of_getElem? (i := 1146) (by decide +kernel)⟩
theorem lw_p54 : lw_okq (⟨"GateTurnsModel", "isLike", "(I)Z"⟩, 29) := ⟨⟨by decide +kernel, by decide +kernel⟩, List.mem_of_getElem? (i := 834) (by decide +kernel), List.mem_of_getElem? (i := 1149) (by decide +kernel), List.mem_of_getElem? (i := 1150) (by decide +kernel)⟩
theorem lw_p55 : lw_okq (⟨"GateTurnsModel", "manyOf", "(Z)I"⟩, 29) := ⟨⟨by decide +kernel, by decide +kernel⟩, List.mem_of_getElem? (i := 834) (by decide +kernel), List.mem_of_getElem? (i := 1153) (by decide +kernel), List.mem_of_getElem? (i := 1154) (by decide +kernel)⟩
theorem lw_p56 : lw_okq (⟨"GateTurnsModel", "deepest", "()I"⟩, 29) := ⟨⟨by decide +kernel, by decide +kernel⟩, List.mem_of_getElem? (i := 834) (by decide +kernel), List.mem_of_getElem? (i := 1157) (by decide +kernel), List.mem_of_getElem? (i := 1158) (by decide +kernel)⟩
theorem lw_p57 : lw_okq (⟨"GateTurnsModel", "firstSticking", "()I"⟩, 29) := ⟨⟨by decide +kernel, by decide +kernel⟩, List.mem_of_getElem? (i := 834) (by decide +kernel), List.mem_of_getElem? (i := 1161) (by decide +kernel), List.mem_of_getElem? (i := 1162) (by decide +kernel)⟩
theorem lw_p58 : lw_okq (⟨"GateTurnsModel", "firstFailing", "()I"⟩, 29) := ⟨⟨by decide +kernel, by decide +kernel⟩, List.mem_of_getElem? (i := 834) (by decide +kernel), List.mem_of_getElem? (i := 1165) (by decide +kernel), List.mem_of_getElem? (i := 1166) (by decide +kernel)⟩
theorem lw_p59 : lw_okq (⟨"GateTurnsModel", "areSo", "([II)Z"⟩, 29) := ⟨⟨by decide +kernel, by decide +kernel⟩, List.mem_of_getElem? (i := 834) (by decide +kernel), List.mem_of_getElem? (i := 1169) (by decide +kernel), List.mem_of_getElem? (i := 1170) (by decide +kernel)⟩
theorem lw_p60 : lw_okq (⟨"GateTurnsModel", "outcomeAt", "(I)I"⟩, 29) := ⟨⟨by decide +kernel, by decide +kernel⟩, List.mem_of_getElem? (i := 834) (by decide +kernel), List.mem_of_getElem? (i := 1173) (by decide +kernel), List.mem_of_getElem? (i := 1174) (by decide +kernel)⟩
theorem lw_p61 : lw_okq (⟨"GateTurnsModel", "isOutcome", "(I)Z"⟩, 29) := ⟨⟨by decide +kernel, by decide +kernel⟩, List.mem_of_getElem? (i := 834) (by decide +kernel), List.mem_of_getElem? (i := 1177) (by decide +kernel), List.mem_of_getElem? (i := 1178) (by decide +kernel)⟩
theorem lw_p62 : lw_okq (⟨"GateTurnsModel", "areCellsLike", "(II)Z"⟩, 29) := ⟨⟨by decide +kernel, by decide +kernel⟩, List.mem_of_getElem? (i := 834) (by decide +kernel), List.mem_of_getElem? (i := 1181) (by decide +kernel), List.mem_of_getElem? (i := 1182) (by decide +kernel)⟩
theorem lw_p63 : lw_okq (⟨"GateTurnsModel", "isNested", "()Z"⟩, 29) := ⟨⟨by decide +kernel, by decide +kernel⟩, List.mem_of_getElem? (i := 834) (by decide +kernel), List.mem_of_getElem? (i := 1185) (by decide +kernel), List.mem_of_getElem? (i := 1186) (by decide +kernel)⟩
def lw_privs_4 : List (MethodName × Nat) := [(⟨"GateTurnsModel", "ownedBy", "([III)I"⟩, 29), (⟨"GateTurnsModel", "areIn", "([III)I"⟩, 29), (⟨"GateTurnsModel", "sticks", "([II)Z"⟩, 29), (⟨"GateTurnsModel", "isOver", "([II)Z"⟩, 29), (⟨"GateTurnsModel", "findsAll", "()V"⟩, 29), (⟨"GateTurnsModel", "finds", "(II)V"⟩, 29), (⟨"GateTurnsModel", "isLike", "(I)Z"⟩, 29), (⟨"GateTurnsModel", "manyOf", "(Z)I"⟩, 29), (⟨"GateTurnsModel", "deepest", "()I"⟩, 29), (⟨"GateTurnsModel", "firstSticking", "()I"⟩, 29), (⟨"GateTurnsModel", "firstFailing", "()I"⟩, 29), (⟨"GateTurnsModel", "areSo", "([II)Z"⟩, 29), (⟨"GateTurnsModel", "outcomeAt", "(I)I"⟩, 29), (⟨"GateTurnsModel", "isOutcome", "(I)Z"⟩, 29), (⟨"GateTurnsModel", "areCellsLike", "(II)Z"⟩, 29), (⟨"GateTurnsModel", "isNested", "()Z"⟩, 29)]
theorem lw_r4 : ∀ q ∈ lw_privs_4, lw_okq q := List.forall_mem_cons.mpr ⟨lw_p48, List.forall_mem_cons.mpr ⟨lw_p49, List.forall_mem_cons.mpr ⟨lw_p50, List.forall_mem_cons.mpr ⟨lw_p51, List.forall_mem_cons.mpr ⟨lw_p52, List.forall_mem_cons.mpr ⟨lw_p53, List.forall_mem_cons.mpr ⟨lw_p54, List.forall_mem_cons.mpr ⟨lw_p55, List.forall_mem_cons.mpr ⟨lw_p56, List.forall_mem_cons.mpr ⟨lw_p57, List.forall_mem_cons.mpr ⟨lw_p58, List.forall_mem_cons.mpr ⟨lw_p59, List.forall_mem_cons.mpr ⟨lw_p60, List.forall_mem_cons.mpr ⟨lw_p61, List.forall_mem_cons.mpr ⟨lw_p62, List.forall_mem_cons.mpr ⟨lw_p63, fun _ h => absurd h List.not_mem_nil⟩⟩⟩⟩⟩⟩⟩⟩⟩⟩⟩⟩⟩⟩⟩⟩
theorem lw_p64 : lw_okq (⟨"GateTurnsModel", "goal", "(I)I"⟩, 29) := ⟨⟨by decide +kernel, by decide +kernel⟩, List.mem_of_getElem? (i := 834) (by decide +kernel), List.mem_of_getElem? (i := 1193) (by decide +kernel), List.mem_of_getElem? (i := 1194) (by decide +kernel)⟩
theorem lw_p65 : lw_okq (⟨"GateTurnsModel", "onWay", "(II)I"⟩, 29) := ⟨⟨by decide +kernel, by decide +kernel⟩, List.mem_of_getElem? (i := 834) (by decide +kernel), List.mem_of_getElem? (i := 1197) (by decide +kernel), List.mem_of_getElem? (i := 1198) (by decide +kernel)⟩
theorem lw_p66 : lw_okq (⟨"GateTurnsModel", "underIn", "(I)I"⟩, 29) := ⟨⟨by decide +kernel, by decide +kernel⟩, List.mem_of_getElem? (i := 834) (by decide +kernel), List.mem_of_getElem? (i := 1213) (by decide +kernel), List.mem_of_getElem? (i := 1214) (by decide +kernel)⟩
def lw_privs_5 : List (MethodName × Nat) := [(⟨"GateTurnsModel", "goal", "(I)I"⟩, 29), (⟨"GateTurnsModel", "onWay", "(II)I"⟩, 29), (⟨"GateTurnsModel", "underIn", "(I)I"⟩, 29)]
theorem lw_r5 : ∀ q ∈ lw_privs_5, lw_okq q := List.forall_mem_cons.mpr ⟨lw_p64, List.forall_mem_cons.mpr ⟨lw_p65, List.forall_mem_cons.mpr ⟨lw_p66, fun _ h => absurd h List.not_mem_nil⟩⟩⟩
def lw_privs : List (MethodName × Nat) := lw_privs_1 ++ (lw_privs_2 ++ (lw_privs_3 ++ (lw_privs_4 ++ (lw_privs_5))))
def lw_tbl : List Cond := k2_sels lw_privs ++ tables_1
theorem lw_privs_ok : ∀ q ∈ lw_privs, lw_okq q := by
  show ∀ q ∈ lw_privs_1 ++ (lw_privs_2 ++ (lw_privs_3 ++ (lw_privs_4 ++ (lw_privs_5)))), lw_okq q
  exact List.forall_mem_append.mpr ⟨lw_r1, List.forall_mem_append.mpr ⟨lw_r2, List.forall_mem_append.mpr ⟨lw_r3, List.forall_mem_append.mpr ⟨lw_r4, lw_r5⟩⟩⟩⟩
end
section
def RX0 : String := "GateTurns$Conditions"
def TX0 : u_T := fun k => match k with
  | 0 => ("GateTurns$Conditions", "size", "I", false)
  | 1 => ("GateTurns$Conditions", "cell", "[I", true)
  | 2 => ("GateTurns$Conditions", "how", "[I", true)
  | _ => ("GateTurns$Conditions", "number", "[I", true)
def tyX0 : Nat → FieldType := fun k => match k with
  | 0 => .int
  | 1 => .array .int
  | 2 => .array .int
  | _ => .array .int
theorem nmX0 : ∀ a, a < 4 → ∀ b, b < 4 → a ≠ b → (TX0 a).2.1 ≠ (TX0 b).2.1 := by decide +kernel
theorem tyX0_ok : ∀ k, k < 4 → parseFieldDescriptor (TX0 k).2.2.1 = some (tyX0 k) := by decide +kernel
abbrev cX0_init : ByteArray := prog_2_method_1_code
def yX0_init : MethodName := ⟨RX0, "<init>", "()V"⟩
abbrev cX0_append : ByteArray := prog_2_method_2_code
def yX0_append : MethodName := ⟨RX0, "append", "(III)V"⟩
abbrev cX0_allSo : ByteArray := prog_2_method_3_code
def yX0_allSo : MethodName := ⟨RX0, "allSo", "([I)Z"⟩
abbrev cX0_isSo : ByteArray := prog_2_method_4_code
def yX0_isSo : MethodName := ⟨RX0, "isSo", "(III)Z"⟩
def RX1 : String := "GateTurns$Desk"
def TX1 : u_T := fun k => match k with
  | 0 => ("GateTurns$Desk", "tasks", "I", false)
  | 1 => ("GateTurns$Desk", "latest", "I", false)
  | 2 => ("GateTurns$Desk", "programs", "[LGateTurns$Program;", true)
  | 3 => ("GateTurns$Desk", "place", "[I", true)
  | 4 => ("GateTurns$Desk", "status", "[I", true)
  | 5 => ("GateTurns$Desk", "saved", "[I", true)
  | 6 => ("GateTurns$Desk", "reason", "[I", true)
  | 7 => ("GateTurns$Desk", "left", "[I", true)
  | 8 => ("GateTurns$Desk", "missing", "[Z", true)
  | 9 => ("GateTurns$Desk", "owner", "[I", true)
  | 10 => ("GateTurns$Desk", "count", "[I", true)
  | 11 => ("GateTurns$Desk", "entry", "[I", true)
  | 12 => ("GateTurns$Desk", "wait", "[I", true)
  | _ => ("GateTurns$Desk", "cells", "[I", true)
def tyX1 : Nat → FieldType := fun k => match k with
  | 0 => .int
  | 1 => .int
  | 2 => .array (.object "GateTurns$Program")
  | 3 => .array .int
  | 4 => .array .int
  | 5 => .array .int
  | 6 => .array .int
  | 7 => .array .int
  | 8 => .array .boolean
  | 9 => .array .int
  | 10 => .array .int
  | 11 => .array .int
  | 12 => .array .int
  | _ => .array .int
theorem nmX1 : ∀ a, a < 14 → ∀ b, b < 14 → a ≠ b → (TX1 a).2.1 ≠ (TX1 b).2.1 := by decide +kernel
theorem tyX1_ok : ∀ k, k < 14 → parseFieldDescriptor (TX1 k).2.2.1 = some (tyX1 k) := by decide +kernel
abbrev cX1_init : ByteArray := prog_3_method_1_code
def yX1_init : MethodName := ⟨RX1, "<init>", "()V"⟩
abbrev cX1_newTask : ByteArray := prog_3_method_2_code
def yX1_newTask : MethodName := ⟨RX1, "newTask", "()I"⟩
abbrev cX1_startAgain : ByteArray := prog_3_method_3_code
def yX1_startAgain : MethodName := ⟨RX1, "startAgain", "()V"⟩
abbrev cX1_forgetReasons : ByteArray := prog_3_method_4_code
def yX1_forgetReasons : MethodName := ⟨RX1, "forgetReasons", "()V"⟩
abbrev cX1_copyFrom : ByteArray := prog_3_method_5_code
def yX1_copyFrom : MethodName := ⟨RX1, "copyFrom", "(LGateTurns$Desk;)V"⟩
abbrev cX1_take : ByteArray := prog_3_method_6_code
def yX1_take : MethodName := ⟨RX1, "take", "(I)V"⟩
abbrev cX1_doAtMonitor : ByteArray := prog_3_method_7_code
def yX1_doAtMonitor : MethodName := ⟨RX1, "doAtMonitor", "(III)I"⟩
abbrev cX1_enter : ByteArray := prog_3_method_8_code
def yX1_enter : MethodName := ⟨RX1, "enter", "(II)I"⟩
abbrev cX1_wake : ByteArray := prog_3_method_9_code
def yX1_wake : MethodName := ⟨RX1, "wake", "(II)V"⟩
abbrev cX1_free : ByteArray := prog_3_method_10_code
def yX1_free : MethodName := ⟨RX1, "free", "(I)V"⟩
abbrev cX1_doWithCells : ByteArray := prog_3_method_11_code
def yX1_doWithCells : MethodName := ⟨RX1, "doWithCells", "(ILGateTurns$Program;I)I"⟩
abbrev cX1_end : ByteArray := prog_3_method_12_code
def yX1_end : MethodName := ⟨RX1, "end", "(II)V"⟩
abbrev cX1_chosenBy : ByteArray := prog_3_method_13_code
def yX1_chosenBy : MethodName := ⟨RX1, "chosenBy", "(I)I"⟩
abbrev cX1_isUsed : ByteArray := prog_3_method_14_code
def yX1_isUsed : MethodName := ⟨RX1, "isUsed", "(I)Z"⟩
abbrev cX1_whereStands : ByteArray := prog_3_method_15_code
def yX1_whereStands : MethodName := ⟨RX1, "whereStands", "(I)I"⟩
abbrev cX1_ownedBy : ByteArray := prog_3_method_16_code
def yX1_ownedBy : MethodName := ⟨RX1, "ownedBy", "(I)I"⟩
abbrev cX1_allThatAre : ByteArray := prog_3_method_17_code
def yX1_allThatAre : MethodName := ⟨RX1, "allThatAre", "(I)I"⟩
abbrev cX1_sticks : ByteArray := prog_3_method_18_code
def yX1_sticks : MethodName := ⟨RX1, "sticks", "()Z"⟩
abbrev cX1_isOver : ByteArray := prog_3_method_19_code
def yX1_isOver : MethodName := ⟨RX1, "isOver", "()Z"⟩
abbrev cX1_aboutToEnter : ByteArray := prog_3_method_20_code
def yX1_aboutToEnter : MethodName := ⟨RX1, "aboutToEnter", "(I)I"⟩
def RX2 : String := "GateTurns$Lists"
def TX2 : u_T := fun k => match k with
  | 0 => ("GateTurns$Lists", "sizes", "[I", true)
  | _ => ("GateTurns$Lists", "rows", "[[I", true)
def tyX2 : Nat → FieldType := fun k => match k with
  | 0 => .array .int
  | _ => .array (.array .int)
theorem nmX2 : ∀ a, a < 2 → ∀ b, b < 2 → a ≠ b → (TX2 a).2.1 ≠ (TX2 b).2.1 := by decide +kernel
theorem tyX2_ok : ∀ k, k < 2 → parseFieldDescriptor (TX2 k).2.2.1 = some (tyX2 k) := by decide +kernel
abbrev cX2_init : ByteArray := prog_4_method_1_code
def yX2_init : MethodName := ⟨RX2, "<init>", "()V"⟩
abbrev cX2_refusalOf : ByteArray := prog_4_method_2_code
def yX2_refusalOf : MethodName := ⟨RX2, "refusalOf", "(I)I"⟩
abbrev cX2_hasPlace : ByteArray := prog_4_method_3_code
def yX2_hasPlace : MethodName := ⟨RX2, "hasPlace", "(II)Z"⟩
abbrev cX2_begin : ByteArray := prog_4_method_4_code
def yX2_begin : MethodName := ⟨RX2, "begin", "(II)V"⟩
def RX3 : String := "GateTurns$Program"
def TX3 : u_T := fun k => match k with
  | 0 => ("GateTurns$Program", "size", "I", false)
  | _ => ("GateTurns$Program", "parts", "[I", true)
def tyX3 : Nat → FieldType := fun k => match k with
  | 0 => .int
  | _ => .array .int
theorem nmX3 : ∀ a, a < 2 → ∀ b, b < 2 → a ≠ b → (TX3 a).2.1 ≠ (TX3 b).2.1 := by decide +kernel
theorem tyX3_ok : ∀ k, k < 2 → parseFieldDescriptor (TX3 k).2.2.1 = some (tyX3 k) := by decide +kernel
abbrev cX3_init : ByteArray := prog_5_method_1_code
def yX3_init : MethodName := ⟨RX3, "<init>", "()V"⟩
abbrev cX3_part : ByteArray := prog_5_method_2_code
def yX3_part : MethodName := ⟨RX3, "part", "(II)I"⟩
abbrev cX3_append : ByteArray := prog_5_method_3_code
def yX3_append : MethodName := ⟨RX3, "append", "(IIII)V"⟩
abbrev cX3_copyFrom : ByteArray := prog_5_method_4_code
def yX3_copyFrom : MethodName := ⟨RX3, "copyFrom", "(LGateTurns$Program;)V"⟩
def RX4 : String := "GateTurns$Reader"
def TX4 : u_T := fun k => match k with
  | 0 => ("GateTurns$Reader", "tape", "LGateTurns$Tape;", true)
  | 1 => ("GateTurns$Reader", "draft", "LGateTurns$Program;", true)
  | 2 => ("GateTurns$Reader", "at", "I", false)
  | _ => ("GateTurns$Reader", "fault", "I", false)
def tyX4 : Nat → FieldType := fun k => match k with
  | 0 => .object "GateTurns$Tape"
  | 1 => .object "GateTurns$Program"
  | 2 => .int
  | _ => .int
theorem nmX4 : ∀ a, a < 4 → ∀ b, b < 4 → a ≠ b → (TX4 a).2.1 ≠ (TX4 b).2.1 := by decide +kernel
theorem tyX4_ok : ∀ k, k < 4 → parseFieldDescriptor (TX4 k).2.2.1 = some (tyX4 k) := by decide +kernel
abbrev cX4_init : ByteArray := prog_6_method_1_code
def yX4_init : MethodName := ⟨RX4, "<init>", "()V"⟩
abbrev cX4_read : ByteArray := prog_6_method_2_code
def yX4_read : MethodName := ⟨RX4, "read", "()I"⟩
abbrev cX4_readStatement : ByteArray := prog_6_method_3_code
def yX4_readStatement : MethodName := ⟨RX4, "readStatement", "()V"⟩
abbrev cX4_readWord : ByteArray := prog_6_method_4_code
def yX4_readWord : MethodName := ⟨RX4, "readWord", "()I"⟩
abbrev cX4_isWord : ByteArray := prog_6_method_5_code
def yX4_isWord : MethodName := ⟨RX4, "isWord", "(Ljava/lang/String;I)Z"⟩
abbrev cX4_wordOf : ByteArray := prog_6_method_6_code
def yX4_wordOf : MethodName := ⟨RX4, "wordOf", "(I)Ljava/lang/String;"⟩
abbrev cX4_readBlank : ByteArray := prog_6_method_7_code
def yX4_readBlank : MethodName := ⟨RX4, "readBlank", "()V"⟩
abbrev cX4_readFigureBelow : ByteArray := prog_6_method_8_code
def yX4_readFigureBelow : MethodName := ⟨RX4, "readFigureBelow", "(I)I"⟩
abbrev cX4_readTarget : ByteArray := prog_6_method_9_code
def yX4_readTarget : MethodName := ⟨RX4, "readTarget", "()I"⟩
abbrev cX4_readNumber : ByteArray := prog_6_method_10_code
def yX4_readNumber : MethodName := ⟨RX4, "readNumber", "()I"⟩
abbrev cX4_takeFigures : ByteArray := prog_6_method_11_code
def yX4_takeFigures : MethodName := ⟨RX4, "takeFigures", "(I)I"⟩
abbrev cX4_allowed : ByteArray := prog_6_method_12_code
def yX4_allowed : MethodName := ⟨RX4, "allowed", "(III)I"⟩
def RX5 : String := "GateTurns$Row"
def TX5 : u_T := fun k => match k with
  | _ => ("", "", "", false)
def tyX5 : Nat → FieldType := fun k => match k with
  | _ => .int
theorem nmX5 : ∀ a, a < 0 → ∀ b, b < 0 → a ≠ b → (TX5 a).2.1 ≠ (TX5 b).2.1 := by decide +kernel
theorem tyX5_ok : ∀ k, k < 0 → parseFieldDescriptor (TX5 k).2.2.1 = some (tyX5 k) := by decide +kernel
abbrev cX5_at : ByteArray := prog_7_method_2_code
def yX5_at : MethodName := ⟨RX5, "at", "(II)I"⟩
abbrev cX5_length : ByteArray := prog_7_method_3_code
def yX5_length : MethodName := ⟨RX5, "length", "(I)I"⟩
abbrev cX5_withLast : ByteArray := prog_7_method_4_code
def yX5_withLast : MethodName := ⟨RX5, "withLast", "(II)I"⟩
abbrev cX5_withoutFirst : ByteArray := prog_7_method_5_code
def yX5_withoutFirst : MethodName := ⟨RX5, "withoutFirst", "(I)I"⟩
abbrev cX5_has : ByteArray := prog_7_method_6_code
def yX5_has : MethodName := ⟨RX5, "has", "(II)Z"⟩
def RX6 : String := "GateTurns$Search"
def TX6 : u_T := fun k => match k with
  | 0 => ("GateTurns$Search", "known", "Z", false)
  | 1 => ("GateTurns$Search", "desk", "LGateTurns$Desk;", true)
  | 2 => ("GateTurns$Search", "states", "LGateTurns$States;", true)
  | 3 => ("GateTurns$Search", "cameFrom", "[I", true)
  | 4 => ("GateTurns$Search", "mover", "[I", true)
  | 5 => ("GateTurns$Search", "depth", "[I", true)
  | 6 => ("GateTurns$Search", "outcomes", "[I", true)
  | 7 => ("GateTurns$Search", "under", "[I", true)
  | 8 => ("GateTurns$Search", "all", "Z", false)
  | 9 => ("GateTurns$Search", "nested", "Z", false)
  | 10 => ("GateTurns$Search", "sticking", "I", false)
  | 11 => ("GateTurns$Search", "failing", "I", false)
  | 12 => ("GateTurns$Search", "howManyStick", "I", false)
  | 13 => ("GateTurns$Search", "howManyOver", "I", false)
  | _ => ("GateTurns$Search", "howManyOutcomes", "I", false)
def tyX6 : Nat → FieldType := fun k => match k with
  | 0 => .boolean
  | 1 => .object "GateTurns$Desk"
  | 2 => .object "GateTurns$States"
  | 3 => .array .int
  | 4 => .array .int
  | 5 => .array .int
  | 6 => .array .int
  | 7 => .array .int
  | 8 => .boolean
  | 9 => .boolean
  | 10 => .int
  | 11 => .int
  | 12 => .int
  | 13 => .int
  | _ => .int
theorem nmX6 : ∀ a, a < 15 → ∀ b, b < 15 → a ≠ b → (TX6 a).2.1 ≠ (TX6 b).2.1 := by decide +kernel
theorem tyX6_ok : ∀ k, k < 15 → parseFieldDescriptor (TX6 k).2.2.1 = some (tyX6 k) := by decide +kernel
abbrev cX6_init : ByteArray := prog_8_method_1_code
def yX6_init : MethodName := ⟨RX6, "<init>", "()V"⟩
abbrev cX6_forget : ByteArray := prog_8_method_2_code
def yX6_forget : MethodName := ⟨RX6, "forget", "()V"⟩
abbrev cX6_explore : ByteArray := prog_8_method_3_code
def yX6_explore : MethodName := ⟨RX6, "explore", "(LGateTurns$Desk;LGateTurns$Conditions;)V"⟩
abbrev cX6_begin : ByteArray := prog_8_method_4_code
def yX6_begin : MethodName := ⟨RX6, "begin", "(LGateTurns$Desk;)V"⟩
abbrev cX6_note : ByteArray := prog_8_method_5_code
def yX6_note : MethodName := ⟨RX6, "note", "(IIILGateTurns$Conditions;)V"⟩
abbrev cX6_noteOutcome : ByteArray := prog_8_method_6_code
def yX6_noteOutcome : MethodName := ⟨RX6, "noteOutcome", "()V"⟩
abbrev cX6_noteMonitors : ByteArray := prog_8_method_7_code
def yX6_noteMonitors : MethodName := ⟨RX6, "noteMonitors", "()V"⟩
abbrev cX6_greatestDepth : ByteArray := prog_8_method_8_code
def yX6_greatestDepth : MethodName := ⟨RX6, "greatestDepth", "()I"⟩
abbrev cX6_depthOf : ByteArray := prog_8_method_9_code
def yX6_depthOf : MethodName := ⟨RX6, "depthOf", "(I)I"⟩
abbrev cX6_moverOf : ByteArray := prog_8_method_10_code
def yX6_moverOf : MethodName := ⟨RX6, "moverOf", "(II)I"⟩
abbrev cX6_cellOfOutcome : ByteArray := prog_8_method_11_code
def yX6_cellOfOutcome : MethodName := ⟨RX6, "cellOfOutcome", "(II)I"⟩
abbrev cX6_goesRound : ByteArray := prog_8_method_12_code
def yX6_goesRound : MethodName := ⟨RX6, "goesRound", "()Z"⟩
def RX7 : String := "GateTurns$States"
def TX7 : u_T := fun k => match k with
  | 0 => ("GateTurns$States", "size", "I", false)
  | 1 => ("GateTurns$States", "words", "[I", true)
  | 2 => ("GateTurns$States", "draft", "[I", true)
  | _ => ("GateTurns$States", "slots", "[I", true)
def tyX7 : Nat → FieldType := fun k => match k with
  | 0 => .int
  | 1 => .array .int
  | 2 => .array .int
  | _ => .array .int
theorem nmX7 : ∀ a, a < 4 → ∀ b, b < 4 → a ≠ b → (TX7 a).2.1 ≠ (TX7 b).2.1 := by decide +kernel
theorem tyX7_ok : ∀ k, k < 4 → parseFieldDescriptor (TX7 k).2.2.1 = some (tyX7 k) := by decide +kernel
abbrev cX7_init : ByteArray := prog_9_method_1_code
def yX7_init : MethodName := ⟨RX7, "<init>", "()V"⟩
abbrev cX7_empty : ByteArray := prog_9_method_2_code
def yX7_empty : MethodName := ⟨RX7, "empty", "()V"⟩
abbrev cX7_keep : ByteArray := prog_9_method_3_code
def yX7_keep : MethodName := ⟨RX7, "keep", "(LGateTurns$Desk;)I"⟩
abbrev cX7_firstSlot : ByteArray := prog_9_method_4_code
def yX7_firstSlot : MethodName := ⟨RX7, "firstSlot", "()I"⟩
abbrev cX7_isDraft : ByteArray := prog_9_method_5_code
def yX7_isDraft : MethodName := ⟨RX7, "isDraft", "(I)Z"⟩
abbrev cX7_pack : ByteArray := prog_9_method_6_code
def yX7_pack : MethodName := ⟨RX7, "pack", "(LGateTurns$Desk;)V"⟩
abbrev cX7_packedTask : ByteArray := prog_9_method_7_code
def yX7_packedTask : MethodName := ⟨RX7, "packedTask", "(LGateTurns$Desk;I)I"⟩
abbrev cX7_packedCells : ByteArray := prog_9_method_8_code
def yX7_packedCells : MethodName := ⟨RX7, "packedCells", "([I)I"⟩
abbrev cX7_unpackedCell : ByteArray := prog_9_method_9_code
def yX7_unpackedCell : MethodName := ⟨RX7, "unpackedCell", "(II)I"⟩
abbrev cX7_unpack : ByteArray := prog_9_method_10_code
def yX7_unpack : MethodName := ⟨RX7, "unpack", "(ILGateTurns$Desk;)V"⟩
def RX8 : String := "GateTurns$Tape"
def TX8 : u_T := fun k => match k with
  | 0 => ("GateTurns$Tape", "bytes", "[I", true)
  | _ => ("GateTurns$Tape", "size", "I", false)
def tyX8 : Nat → FieldType := fun k => match k with
  | 0 => .array .int
  | _ => .int
theorem nmX8 : ∀ a, a < 2 → ∀ b, b < 2 → a ≠ b → (TX8 a).2.1 ≠ (TX8 b).2.1 := by decide +kernel
theorem tyX8_ok : ∀ k, k < 2 → parseFieldDescriptor (TX8 k).2.2.1 = some (tyX8 k) := by decide +kernel
abbrev cX8_init : ByteArray := prog_10_method_1_code
def yX8_init : MethodName := ⟨RX8, "<init>", "()V"⟩
abbrev cX8_append : ByteArray := prog_10_method_2_code
def yX8_append : MethodName := ⟨RX8, "append", "(I)V"⟩
abbrev cX8_at : ByteArray := prog_10_method_3_code
def yX8_at : MethodName := ⟨RX8, "at", "(I)I"⟩
def RX9 : String := "GateTurns$Trouble"
def TX9 : u_T := fun k => match k with
  | 0 => ("GateTurns$Trouble", "size", "I", false)
  | 1 => ("GateTurns$Trouble", "sorts", "[I", true)
  | _ => ("GateTurns$Trouble", "numbers", "[I", true)
def tyX9 : Nat → FieldType := fun k => match k with
  | 0 => .int
  | 1 => .array .int
  | _ => .array .int
theorem nmX9 : ∀ a, a < 3 → ∀ b, b < 3 → a ≠ b → (TX9 a).2.1 ≠ (TX9 b).2.1 := by decide +kernel
theorem tyX9_ok : ∀ k, k < 3 → parseFieldDescriptor (TX9 k).2.2.1 = some (tyX9 k) := by decide +kernel
abbrev cX9_init : ByteArray := prog_11_method_1_code
def yX9_init : MethodName := ⟨RX9, "<init>", "()V"⟩
abbrev cX9_ofProgram : ByteArray := prog_11_method_2_code
def yX9_ofProgram : MethodName := ⟨RX9, "ofProgram", "(III)V"⟩
abbrev cX9_ofStep : ByteArray := prog_11_method_3_code
def yX9_ofStep : MethodName := ⟨RX9, "ofStep", "(IIII)V"⟩
abbrev cX9_append : ByteArray := prog_11_method_4_code
def yX9_append : MethodName := ⟨RX9, "append", "(II)V"⟩
abbrev cX9_link : ByteArray := prog_11_method_5_code
def yX9_link : MethodName := ⟨RX9, "link", "(II)I"⟩
def RX10 : String := "GateTurns"
def TX10 : u_T := fun k => match k with
  | 0 => ("GateTurns", "now", "LGateTurns$Desk;", true)
  | 1 => ("GateTurns", "kept", "LGateTurns$Desk;", true)
  | 2 => ("GateTurns", "hasImage", "Z", false)
  | 3 => ("GateTurns", "reader", "LGateTurns$Reader;", true)
  | 4 => ("GateTurns", "tape", "LGateTurns$Tape;", true)
  | 5 => ("GateTurns", "trouble", "LGateTurns$Trouble;", true)
  | 6 => ("GateTurns", "conditions", "LGateTurns$Conditions;", true)
  | 7 => ("GateTurns", "search", "LGateTurns$Search;", true)
  | _ => ("GateTurns", "lists", "LGateTurns$Lists;", true)
def tyX10 : Nat → FieldType := fun k => match k with
  | 0 => .object "GateTurns$Desk"
  | 1 => .object "GateTurns$Desk"
  | 2 => .boolean
  | 3 => .object "GateTurns$Reader"
  | 4 => .object "GateTurns$Tape"
  | 5 => .object "GateTurns$Trouble"
  | 6 => .object "GateTurns$Conditions"
  | 7 => .object "GateTurns$Search"
  | _ => .object "GateTurns$Lists"
theorem nmX10 : ∀ a, a < 9 → ∀ b, b < 9 → a ≠ b → (TX10 a).2.1 ≠ (TX10 b).2.1 := by decide +kernel
theorem tyX10_ok : ∀ k, k < 9 → parseFieldDescriptor (TX10 k).2.2.1 = some (tyX10 k) := by decide +kernel
abbrev cX10_init : ByteArray := prog_1_method_1_code
def yX10_init : MethodName := ⟨RX10, "<init>", "()V"⟩
abbrev cX10_task : ByteArray := prog_1_method_2_code
def yX10_task : MethodName := ⟨RX10, "task", "()I"⟩
abbrev cX10_restart : ByteArray := prog_1_method_3_code
def yX10_restart : MethodName := ⟨RX10, "restart", "()I"⟩
abbrev cX10_missing : ByteArray := prog_1_method_4_code
def yX10_missing : MethodName := ⟨RX10, "missing", "(IZ)I"⟩
abbrev cX10_put : ByteArray := prog_1_method_5_code
def yX10_put : MethodName := ⟨RX10, "put", "(II)I"⟩
abbrev cX10_cell : ByteArray := prog_1_method_6_code
def yX10_cell : MethodName := ⟨RX10, "cell", "(I)I"⟩
abbrev cX10_feed : ByteArray := prog_1_method_7_code
def yX10_feed : MethodName := ⟨RX10, "feed", "(I)I"⟩
abbrev cX10_clear : ByteArray := prog_1_method_8_code
def yX10_clear : MethodName := ⟨RX10, "clear", "()I"⟩
abbrev cX10_program : ByteArray := prog_1_method_9_code
def yX10_program : MethodName := ⟨RX10, "program", "(I)I"⟩
abbrev cX10_statement : ByteArray := prog_1_method_10_code
def yX10_statement : MethodName := ⟨RX10, "statement", "(III)I"⟩
abbrev cX10_step : ByteArray := prog_1_method_11_code
def yX10_step : MethodName := ⟨RX10, "step", "(I)I"⟩
abbrev cX10_run : ByteArray := prog_1_method_12_code
def yX10_run : MethodName := ⟨RX10, "run", "(II)I"⟩
abbrev cX10_follow : ByteArray := prog_1_method_13_code
def yX10_follow : MethodName := ⟨RX10, "follow", "(III)I"⟩
abbrev cX10_of : ByteArray := prog_1_method_14_code
def yX10_of : MethodName := ⟨RX10, "of", "(II)I"⟩
abbrev cX10_gate : ByteArray := prog_1_method_15_code
def yX10_gate : MethodName := ⟨RX10, "gate", "(II)I"⟩
abbrev cX10_stands : ByteArray := prog_1_method_16_code
def yX10_stands : MethodName := ⟨RX10, "stands", "(III)I"⟩
abbrev cX10_are : ByteArray := prog_1_method_17_code
def yX10_are : MethodName := ⟨RX10, "are", "(I)I"⟩
abbrev cX10_told : ByteArray := prog_1_method_18_code
def yX10_told : MethodName := ⟨RX10, "told", "(I)I"⟩
abbrev cX10_cause : ByteArray := prog_1_method_19_code
def yX10_cause : MethodName := ⟨RX10, "cause", "(II)I"⟩
abbrev cX10_found : ByteArray := prog_1_method_20_code
def yX10_found : MethodName := ⟨RX10, "found", "(I)I"⟩
abbrev cX10_schedule : ByteArray := prog_1_method_21_code
def yX10_schedule : MethodName := ⟨RX10, "schedule", "(II)I"⟩
abbrev cX10_lay : ByteArray := prog_1_method_22_code
def yX10_lay : MethodName := ⟨RX10, "lay", "(III)I"⟩
abbrev cX10_outcome : ByteArray := prog_1_method_23_code
def yX10_outcome : MethodName := ⟨RX10, "outcome", "(II)I"⟩
abbrev cX10_under : ByteArray := prog_1_method_24_code
def yX10_under : MethodName := ⟨RX10, "under", "(I)I"⟩
abbrev cX10_round : ByteArray := prog_1_method_25_code
def yX10_round : MethodName := ⟨RX10, "round", "()I"⟩
abbrev cX10_condition : ByteArray := prog_1_method_26_code
def yX10_condition : MethodName := ⟨RX10, "condition", "(III)I"⟩
abbrev cX10_holds : ByteArray := prog_1_method_27_code
def yX10_holds : MethodName := ⟨RX10, "holds", "()I"⟩
abbrev cX10_list : ByteArray := prog_1_method_28_code
def yX10_list : MethodName := ⟨RX10, "list", "(II)I"⟩
abbrev cX10_set : ByteArray := prog_1_method_29_code
def yX10_set : MethodName := ⟨RX10, "set", "(III)I"⟩
abbrev cX10_get : ByteArray := prog_1_method_30_code
def yX10_get : MethodName := ⟨RX10, "get", "(II)I"⟩
abbrev cX10_image : ByteArray := prog_1_method_31_code
def yX10_image : MethodName := ⟨RX10, "image", "()I"⟩
abbrev cX10_back : ByteArray := prog_1_method_32_code
def yX10_back : MethodName := ⟨RX10, "back", "()I"⟩
abbrev cX10_isTask : ByteArray := prog_1_method_33_code
def yX10_isTask : MethodName := ⟨RX10, "isTask", "(I)Z"⟩
abbrev cX10_isMonitor : ByteArray := prog_1_method_34_code
def yX10_isMonitor : MethodName := ⟨RX10, "isMonitor", "(I)Z"⟩
abbrev cX10_isCell : ByteArray := prog_1_method_35_code
def yX10_isCell : MethodName := ⟨RX10, "isCell", "(I)Z"⟩
abbrev cX10_isCellNumber : ByteArray := prog_1_method_36_code
def yX10_isCellNumber : MethodName := ⟨RX10, "isCellNumber", "(I)Z"⟩
abbrev cX10_isList : ByteArray := prog_1_method_37_code
def yX10_isList : MethodName := ⟨RX10, "isList", "(I)Z"⟩
abbrev cX10_asNumber : ByteArray := prog_1_method_38_code
def yX10_asNumber : MethodName := ⟨RX10, "asNumber", "(Z)I"⟩
abbrev cX10_takeTruly : ByteArray := prog_1_method_39_code
def yX10_takeTruly : MethodName := ⟨RX10, "takeTruly", "(I)V"⟩
def RX11 : String := "GateTurnsModel"
def TX11 : u_T := fun k => match k with
  | 0 => ("GateTurnsModel", "g", "[I", true)
  | 1 => ("GateTurnsModel", "kept", "[I", true)
  | 2 => ("GateTurnsModel", "s", "[I", true)
  | 3 => ("GateTurnsModel", "reasons", "[I", true)
  | 4 => ("GateTurnsModel", "lefts", "[I", true)
  | 5 => ("GateTurnsModel", "isKept", "Z", false)
  | 6 => ("GateTurnsModel", "tape", "[I", true)
  | 7 => ("GateTurnsModel", "read", "[I", true)
  | 8 => ("GateTurnsModel", "letters", "[I", true)
  | 9 => ("GateTurnsModel", "fed", "I", false)
  | 10 => ("GateTurnsModel", "at", "I", false)
  | 11 => ("GateTurnsModel", "fault", "I", false)
  | 12 => ("GateTurnsModel", "whole", "I", false)
  | 13 => ("GateTurnsModel", "sorts", "[I", true)
  | 14 => ("GateTurnsModel", "numbers", "[I", true)
  | 15 => ("GateTurnsModel", "troubles", "I", false)
  | 16 => ("GateTurnsModel", "reason", "I", false)
  | 17 => ("GateTurnsModel", "owned", "I", false)
  | 18 => ("GateTurnsModel", "states", "[I", true)
  | 19 => ("GateTurnsModel", "ahead", "[I", true)
  | 20 => ("GateTurnsModel", "by", "[I", true)
  | 21 => ("GateTurnsModel", "depths", "[I", true)
  | 22 => ("GateTurnsModel", "marks", "[I", true)
  | 23 => ("GateTurnsModel", "found", "I", false)
  | 24 => ("GateTurnsModel", "isAll", "Z", false)
  | 25 => ("GateTurnsModel", "told", "[I", true)
  | 26 => ("GateTurnsModel", "conditions", "I", false)
  | 27 => ("GateTurnsModel", "sizes", "[I", true)
  | _ => ("GateTurnsModel", "items", "[I", true)
def tyX11 : Nat → FieldType := fun k => match k with
  | 0 => .array .int
  | 1 => .array .int
  | 2 => .array .int
  | 3 => .array .int
  | 4 => .array .int
  | 5 => .boolean
  | 6 => .array .int
  | 7 => .array .int
  | 8 => .array .int
  | 9 => .int
  | 10 => .int
  | 11 => .int
  | 12 => .int
  | 13 => .array .int
  | 14 => .array .int
  | 15 => .int
  | 16 => .int
  | 17 => .int
  | 18 => .array .int
  | 19 => .array .int
  | 20 => .array .int
  | 21 => .array .int
  | 22 => .array .int
  | 23 => .int
  | 24 => .boolean
  | 25 => .array .int
  | 26 => .int
  | 27 => .array .int
  | _ => .array .int
theorem nmX11 : ∀ a, a < 29 → ∀ b, b < 29 → a ≠ b → (TX11 a).2.1 ≠ (TX11 b).2.1 := by decide +kernel
theorem tyX11_ok : ∀ k, k < 29 → parseFieldDescriptor (TX11 k).2.2.1 = some (tyX11 k) := by decide +kernel
abbrev cX11_init : ByteArray := prog_13_method_1_code
def yX11_init : MethodName := ⟨RX11, "<init>", "()V"⟩
abbrev cX11_in : ByteArray := prog_13_method_2_code
def yX11_in : MethodName := ⟨RX11, "in", "(JJJ)Z"⟩
abbrev cX11_has : ByteArray := prog_13_method_3_code
def yX11_has : MethodName := ⟨RX11, "has", "(II)Z"⟩
abbrev cX11_copies : ByteArray := prog_13_method_4_code
def yX11_copies : MethodName := ⟨RX11, "copies", "([II[III)V"⟩
abbrev cX11_isTask : ByteArray := prog_13_method_5_code
def yX11_isTask : MethodName := ⟨RX11, "isTask", "(I)Z"⟩
abbrev cX11_isMonitor : ByteArray := prog_13_method_6_code
def yX11_isMonitor : MethodName := ⟨RX11, "isMonitor", "(I)Z"⟩
abbrev cX11_isCell : ByteArray := prog_13_method_7_code
def yX11_isCell : MethodName := ⟨RX11, "isCell", "(I)Z"⟩
abbrev cX11_task : ByteArray := prog_13_method_8_code
def yX11_task : MethodName := ⟨RX11, "task", "()I"⟩
abbrev cX11_restart : ByteArray := prog_13_method_9_code
def yX11_restart : MethodName := ⟨RX11, "restart", "()I"⟩
abbrev cX11_missing : ByteArray := prog_13_method_10_code
def yX11_missing : MethodName := ⟨RX11, "missing", "(IZ)I"⟩
abbrev cX11_put : ByteArray := prog_13_method_11_code
def yX11_put : MethodName := ⟨RX11, "put", "(II)I"⟩
abbrev cX11_cell : ByteArray := prog_13_method_12_code
def yX11_cell : MethodName := ⟨RX11, "cell", "(I)I"⟩
abbrev cX11_feed : ByteArray := prog_13_method_13_code
def yX11_feed : MethodName := ⟨RX11, "feed", "(I)I"⟩
abbrev cX11_clear : ByteArray := prog_13_method_14_code
def yX11_clear : MethodName := ⟨RX11, "clear", "()I"⟩
abbrev cX11_here : ByteArray := prog_13_method_15_code
def yX11_here : MethodName := ⟨RX11, "here", "()I"⟩
abbrev cX11_must : ByteArray := prog_13_method_16_code
def yX11_must : MethodName := ⟨RX11, "must", "(ZI)V"⟩
abbrev cX11_takes : ByteArray := prog_13_method_17_code
def yX11_takes : MethodName := ⟨RX11, "takes", "(I)V"⟩
abbrev cX11_isWord : ByteArray := prog_13_method_18_code
def yX11_isWord : MethodName := ⟨RX11, "isWord", "(II)Z"⟩
abbrev cX11_word : ByteArray := prog_13_method_19_code
def yX11_word : MethodName := ⟨RX11, "word", "()I"⟩
abbrev cX11_number : ByteArray := prog_13_method_20_code
def yX11_number : MethodName := ⟨RX11, "number", "(IIZ)I"⟩
abbrev cX11_statement1 : ByteArray := prog_13_method_21_code
def yX11_statement1 : MethodName := ⟨RX11, "statement1", "(I)V"⟩
abbrev cX11_tells : ByteArray := prog_13_method_22_code
def yX11_tells : MethodName := ⟨RX11, "tells", "(IIIII)V"⟩
abbrev cX11_program : ByteArray := prog_13_method_23_code
def yX11_program : MethodName := ⟨RX11, "program", "(I)I"⟩
abbrev cX11_field : ByteArray := prog_13_method_24_code
def yX11_field : MethodName := ⟨RX11, "field", "(III)I"⟩
abbrev cX11_statement : ByteArray := prog_13_method_25_code
def yX11_statement : MethodName := ⟨RX11, "statement", "(III)I"⟩
abbrev cX11_isOwner : ByteArray := prog_13_method_26_code
def yX11_isOwner : MethodName := ⟨RX11, "isOwner", "(II)Z"⟩
abbrev cX11_comes : ByteArray := prog_13_method_27_code
def yX11_comes : MethodName := ⟨RX11, "comes", "(IIII)V"⟩
abbrev cX11_leaves : ByteArray := prog_13_method_28_code
def yX11_leaves : MethodName := ⟨RX11, "leaves", "(III)I"⟩
abbrev cX11_frees : ByteArray := prog_13_method_29_code
def yX11_frees : MethodName := ⟨RX11, "frees", "(I)V"⟩
abbrev cX11_ends : ByteArray := prog_13_method_30_code
def yX11_ends : MethodName := ⟨RX11, "ends", "(II)V"⟩
abbrev cX11_enters : ByteArray := prog_13_method_31_code
def yX11_enters : MethodName := ⟨RX11, "enters", "(II)V"⟩
abbrev cX11_notifies : ByteArray := prog_13_method_32_code
def yX11_notifies : MethodName := ⟨RX11, "notifies", "(IZ)V"⟩
abbrev cX11_monitors : ByteArray := prog_13_method_33_code
def yX11_monitors : MethodName := ⟨RX11, "monitors", "(III)V"⟩
abbrev cX11_steps : ByteArray := prog_13_method_34_code
def yX11_steps : MethodName := ⟨RX11, "steps", "(I)V"⟩
abbrev cX11_stepsTruly : ByteArray := prog_13_method_35_code
def yX11_stepsTruly : MethodName := ⟨RX11, "stepsTruly", "(I)V"⟩
abbrev cX11_isReady : ByteArray := prog_13_method_36_code
def yX11_isReady : MethodName := ⟨RX11, "isReady", "(I)Z"⟩
abbrev cX11_step : ByteArray := prog_13_method_37_code
def yX11_step : MethodName := ⟨RX11, "step", "(I)I"⟩
abbrev cX11_chosen : ByteArray := prog_13_method_38_code
def yX11_chosen : MethodName := ⟨RX11, "chosen", "(I)I"⟩
abbrev cX11_run : ByteArray := prog_13_method_39_code
def yX11_run : MethodName := ⟨RX11, "run", "(II)I"⟩
abbrev cX11_follow : ByteArray := prog_13_method_40_code
def yX11_follow : MethodName := ⟨RX11, "follow", "(III)I"⟩
abbrev cX11_standsAt : ByteArray := prog_13_method_41_code
def yX11_standsAt : MethodName := ⟨RX11, "standsAt", "(I)I"⟩
abbrev cX11_ownedBy : ByteArray := prog_13_method_42_code
def yX11_ownedBy : MethodName := ⟨RX11, "ownedBy", "([III)I"⟩
abbrev cX11_of : ByteArray := prog_13_method_43_code
def yX11_of : MethodName := ⟨RX11, "of", "(II)I"⟩
abbrev cX11_gate : ByteArray := prog_13_method_44_code
def yX11_gate : MethodName := ⟨RX11, "gate", "(II)I"⟩
abbrev cX11_stands : ByteArray := prog_13_method_45_code
def yX11_stands : MethodName := ⟨RX11, "stands", "(III)I"⟩
abbrev cX11_areIn : ByteArray := prog_13_method_46_code
def yX11_areIn : MethodName := ⟨RX11, "areIn", "([III)I"⟩
abbrev cX11_are : ByteArray := prog_13_method_47_code
def yX11_are : MethodName := ⟨RX11, "are", "(I)I"⟩
abbrev cX11_sticks : ByteArray := prog_13_method_48_code
def yX11_sticks : MethodName := ⟨RX11, "sticks", "([II)Z"⟩
abbrev cX11_isOver : ByteArray := prog_13_method_49_code
def yX11_isOver : MethodName := ⟨RX11, "isOver", "([II)Z"⟩
abbrev cX11_told : ByteArray := prog_13_method_50_code
def yX11_told : MethodName := ⟨RX11, "told", "(I)I"⟩
abbrev cX11_cause : ByteArray := prog_13_method_51_code
def yX11_cause : MethodName := ⟨RX11, "cause", "(II)I"⟩
abbrev cX11_isLike : ByteArray := prog_13_method_52_code
def yX11_isLike : MethodName := ⟨RX11, "isLike", "(I)Z"⟩
abbrev cX11_finds : ByteArray := prog_13_method_53_code
def yX11_finds : MethodName := ⟨RX11, "finds", "(II)V"⟩
abbrev cX11_findsAll : ByteArray := prog_13_method_54_code
def yX11_findsAll : MethodName := ⟨RX11, "findsAll", "()V"⟩
abbrev cX11_firstSticking : ByteArray := prog_13_method_55_code
def yX11_firstSticking : MethodName := ⟨RX11, "firstSticking", "()I"⟩
abbrev cX11_firstFailing : ByteArray := prog_13_method_56_code
def yX11_firstFailing : MethodName := ⟨RX11, "firstFailing", "()I"⟩
abbrev cX11_deepest : ByteArray := prog_13_method_57_code
def yX11_deepest : MethodName := ⟨RX11, "deepest", "()I"⟩
abbrev cX11_areCellsLike : ByteArray := prog_13_method_58_code
def yX11_areCellsLike : MethodName := ⟨RX11, "areCellsLike", "(II)Z"⟩
abbrev cX11_isOutcome : ByteArray := prog_13_method_59_code
def yX11_isOutcome : MethodName := ⟨RX11, "isOutcome", "(I)Z"⟩
abbrev cX11_outcomeAt : ByteArray := prog_13_method_60_code
def yX11_outcomeAt : MethodName := ⟨RX11, "outcomeAt", "(I)I"⟩
abbrev cX11_isNested : ByteArray := prog_13_method_61_code
def yX11_isNested : MethodName := ⟨RX11, "isNested", "()Z"⟩
abbrev cX11_manyOf : ByteArray := prog_13_method_62_code
def yX11_manyOf : MethodName := ⟨RX11, "manyOf", "(Z)I"⟩
abbrev cX11_found : ByteArray := prog_13_method_63_code
def yX11_found : MethodName := ⟨RX11, "found", "(I)I"⟩
abbrev cX11_goal : ByteArray := prog_13_method_64_code
def yX11_goal : MethodName := ⟨RX11, "goal", "(I)I"⟩
abbrev cX11_onWay : ByteArray := prog_13_method_65_code
def yX11_onWay : MethodName := ⟨RX11, "onWay", "(II)I"⟩
abbrev cX11_schedule : ByteArray := prog_13_method_66_code
def yX11_schedule : MethodName := ⟨RX11, "schedule", "(II)I"⟩
abbrev cX11_lay : ByteArray := prog_13_method_67_code
def yX11_lay : MethodName := ⟨RX11, "lay", "(III)I"⟩
abbrev cX11_outcome : ByteArray := prog_13_method_68_code
def yX11_outcome : MethodName := ⟨RX11, "outcome", "(II)I"⟩
abbrev cX11_underIn : ByteArray := prog_13_method_69_code
def yX11_underIn : MethodName := ⟨RX11, "underIn", "(I)I"⟩
abbrev cX11_under : ByteArray := prog_13_method_70_code
def yX11_under : MethodName := ⟨RX11, "under", "(I)I"⟩
abbrev cX11_round : ByteArray := prog_13_method_71_code
def yX11_round : MethodName := ⟨RX11, "round", "()I"⟩
abbrev cX11_areSo : ByteArray := prog_13_method_72_code
def yX11_areSo : MethodName := ⟨RX11, "areSo", "([II)Z"⟩
abbrev cX11_condition : ByteArray := prog_13_method_73_code
def yX11_condition : MethodName := ⟨RX11, "condition", "(III)I"⟩
abbrev cX11_holds : ByteArray := prog_13_method_74_code
def yX11_holds : MethodName := ⟨RX11, "holds", "()I"⟩
abbrev cX11_isList : ByteArray := prog_13_method_75_code
def yX11_isList : MethodName := ⟨RX11, "isList", "(I)Z"⟩
abbrev cX11_list : ByteArray := prog_13_method_76_code
def yX11_list : MethodName := ⟨RX11, "list", "(II)I"⟩
abbrev cX11_set : ByteArray := prog_13_method_77_code
def yX11_set : MethodName := ⟨RX11, "set", "(III)I"⟩
abbrev cX11_get : ByteArray := prog_13_method_78_code
def yX11_get : MethodName := ⟨RX11, "get", "(II)I"⟩
abbrev cX11_image : ByteArray := prog_13_method_79_code
def yX11_image : MethodName := ⟨RX11, "image", "()I"⟩
abbrev cX11_back : ByteArray := prog_13_method_80_code
def yX11_back : MethodName := ⟨RX11, "back", "()I"⟩
def RJx145de : String := "java/io/Serializable"
def RJx9f9b0 : String := "java/lang/CharSequence"
def RJxb160c : String := "java/lang/Comparable"
def RJ9 : String := "java/lang/Math"
abbrev cJ9_min_7cf53 : ByteArray := prog_14_method_69_code
def yJ9_min_7cf53 : MethodName := ⟨RJ9, "min", "(II)I"⟩
def RJ0 : String := "java/lang/String"
abbrev cJ0_length_8abf5 : ByteArray := prog_15_method_54_code
def yJ0_length_8abf5 : MethodName := ⟨RJ0, "length", "()I"⟩
abbrev cJ0_charAt_5068e : ByteArray := prog_15_method_56_code
def yJ0_charAt_5068e : MethodName := ⟨RJ0, "charAt", "(I)C"⟩
abbrev cJ0_coder_7d493 : ByteArray := prog_15_method_152_code
def yJ0_coder_7d493 : MethodName := ⟨RJ0, "coder", "()B"⟩
abbrev cJ0_isLatin1_aae02 : ByteArray := prog_15_method_154_code
def yJ0_isLatin1_aae02 : MethodName := ⟨RJ0, "isLatin1", "()Z"⟩
abbrev cJ0_checkIndex_df160 : ByteArray := prog_15_method_155_code
def yJ0_checkIndex_df160 : MethodName := ⟨RJ0, "checkIndex", "(II)V"⟩
def RJ1 : String := "java/lang/StringLatin1"
abbrev cJ1_charAt_3b067 : ByteArray := prog_16_method_2_code
def yJ1_charAt_3b067 : MethodName := ⟨RJ1, "charAt", "([BI)C"⟩
def RJ2 : String := "java/lang/StringUTF16"
abbrev cJ2_getChar_3b067 : ByteArray := prog_17_method_5_code
def yJ2_getChar_3b067 : MethodName := ⟨RJ2, "getChar", "([BI)C"⟩
abbrev cJ2_length_9d52b : ByteArray := prog_17_method_6_code
def yJ2_length_9d52b : MethodName := ⟨RJ2, "length", "([B)I"⟩
abbrev cJ2_charAt_3b067 : ByteArray := prog_17_method_83_code
def yJ2_charAt_3b067 : MethodName := ⟨RJ2, "charAt", "([BI)C"⟩
abbrev cJ2_checkIndex_2214a : ByteArray := prog_17_method_91_code
def yJ2_checkIndex_2214a : MethodName := ⟨RJ2, "checkIndex", "(I[B)V"⟩
def RJ10 : String := "java/lang/System"
def RJxfd54e : String := "java/lang/constant/Constable"
def RJx3cf43 : String := "java/lang/constant/ConstantDesc"
def RJ7 : String := "java/util/Arrays"
abbrev cJ7_fill_53178 : ByteArray := prog_19_method_103_code
def yJ7_fill_53178 : MethodName := ⟨RJ7, "fill", "([II)V"⟩
def RJ3 : String := "jdk/internal/util/Preconditions"
abbrev cJ3_checkIndex_8e157 : ByteArray := prog_20_method_11_code
def yJ3_checkIndex_8e157 : MethodName := ⟨RJ3, "checkIndex", "(IILjava/util/function/BiFunction;)I"⟩
def RL : String := "GateTurnsLaw"
abbrev cL_law : ByteArray := code
def yL_law : MethodName := ⟨RL, "law", "([I)Z"⟩
abbrev vwCl : List vw_C := [(RX0, TX0, 4), (RX1, TX1, 14), (RX2, TX2, 2), (RX3, TX3, 2), (RX4, TX4, 4), (RX6, TX6, 15), (RX7, TX7, 4), (RX8, TX8, 2), (RX9, TX9, 3), (RX10, TX10, 9), (RX11, TX11, 29)]
end
section
/-! THE FLAT MEMORY: every cell that the law makes stands at a number; its ints are f a k; its layout (kind, length, references) is a list. A method's walk is a judgement 'A' over locals, stack and memory; the machine's own words stand behind it. -/
abbrev Mem : Type := Nat → Nat → Int32
/-- kind (0 int[], 1 boolean[], 2 Program[], 3 int[][], 4 + c an object of the class c), length, for each place 0 (a number), 1 (null), a + 2 (the cell a) -/
abbrev Ly : Type := Nat × Nat × List Nat
/-- name, bytes, locals, answer, frames, words -/
abbrev MT : Type := MethodName × ByteArray × Nat × Option FieldType × Nat × Nat
def gw : List Cond := lw_tbl.filter goodWord
theorem mem_gw {w : Cond} (i : Nat) (h : lw_tbl[i]? = some w) (hg : goodWord w = true) : w ∈ gw := List.mem_filter.mpr ⟨List.mem_of_getElem? h, hg⟩
abbrev gt_y (M : MT) : MethodName := M.1
abbrev gt_c (M : MT) : ByteArray := M.2.1
abbrev gt_L (M : MT) : Nat := M.2.2.1
abbrev gt_r (M : MT) : Option FieldType := M.2.2.2.1
abbrev gt_fr (M : MT) : Nat := M.2.2.2.2.1
abbrev gt_wo (M : MT) : Nat := M.2.2.2.2.2
abbrev gt_R (M : MT) (mc ms : Nat) : Room := { frames := gt_fr M, cells := mc, slots := ms, locals := gt_wo M }
abbrev gt_ws (M : MT) : List Cond := Cond.code (gt_y M) (gt_c M) (gt_L M) (gt_r M) :: gw
def cz (al : Nat → Nat) : Value → Value
  | .ref a => .ref (al a)
  | .int x => .int x
  | .long x => .long x
  | .float x => .float x
  | .double x => .double x
  | .null => .null
  | .retAddr x => .retAddr x
theorem cz_cat (al : Nat → Nat) (v : Value) : (cz al v).category = v.category := by cases v <;> rfl
/-- one row becomes g -/
def ur (f : Mem) (a : Nat) (g : Nat → Int32) : Mem := fun b => if b = a then g else f b
/-- one number becomes x -/
def u2 (f : Mem) (a k : Nat) (x : Int32) : Mem := ur f a (upd (f a) k x)
theorem ur_s (f : Mem) (a : Nat) (g : Nat → Int32) : ur f a g a = g := if_pos rfl
theorem ur_n (f : Mem) {a b : Nat} (g : Nat → Int32) (h : b ≠ a) : ur f a g b = f b := if_neg h
theorem u2_s (f : Mem) (a k : Nat) (x : Int32) : u2 f a k x a = upd (f a) k x := if_pos rfl
theorem u2_n (f : Mem) {a b : Nat} (k : Nat) (x : Int32) (h : b ≠ a) : u2 f a k x b = f b := if_neg h
theorem upd_s (f : Nat → Int32) (k : Nat) (x : Int32) : upd f k x k = x := if_pos rfl
theorem upd_n (f : Nat → Int32) {k j : Nat} (x : Int32) (h : j ≠ k) : upd f k x j = f j := if_neg h
def gt_fv (al : Nat → Nat) (f : Nat → Int32) (k : Nat) : Nat → Value
  | 0 => .int (f k)
  | 1 => .null
  | n + 2 => .ref (al n)
def gt_fl (al : Nat → Nat) (f : Nat → Int32) : Nat → List Nat → List Value
  | _, [] => []
  | k, o :: t => gt_fv al f k o :: gt_fl al f (k + 1) t
def gt_ro (al : Nat → Nat) : Nat → Option Nat
  | n + 2 => some (al n)
  | _ => none
def gt_ra (al : Nat → Nat) (l : List Nat) (j : Nat) : Option Nat := gt_ro al (l.getD j 1)
def gt_we (al : Nat → Nat) (ac : Nat → ClassId) (f : Nat → Int32) (q : Ly) : va_E := match q.1 with
  | 0 => .inl (ac 0, q.2.1, .inl f)
  | 1 => .inl (ac 1, q.2.1, .inl f)
  | 2 => .inl (ac 2, q.2.1, .inr (.inr (.inr (.inr (gt_ra al q.2.2)))))
  | 3 => .inl (ac 3, q.2.1, .inr (.inr (.inr (.inr (gt_ra al q.2.2)))))
  | n + 4 => .inr (n, gt_fl al f 0 q.2.2)
def gt_wl (al : Nat → Nat) (ac : Nat → ClassId) (f : Mem) : Nat → List Ly → va_W
  | _, [] => []
  | i, q :: t => (al i, gt_we al ac (f i) q) :: gt_wl al ac f (i + 1) t
theorem gt_fl_at (al : Nat → Nat) (f : Nat → Int32) : ∀ (l : List Nat) (k0 k : Nat), (gt_fl al f k0 l)[k]? = (l[k]?).map (gt_fv al f (k0 + k))
  | [], _, _ => by simp [gt_fl]
  | o :: t, k0, 0 => by simp [gt_fl]
  | o :: t, k0, k + 1 => by
    rw [gt_fl, List.getElem?_cons_succ, List.getElem?_cons_succ, gt_fl_at al f t (k0 + 1) k]
    rw [show k0 + 1 + k = k0 + (k + 1) by omega]
theorem gt_fl_len (al : Nat → Nat) (f : Nat → Int32) : ∀ (l : List Nat) (k0 : Nat), (gt_fl al f k0 l).length = l.length
  | [], _ => rfl
  | o :: t, k0 => by simp [gt_fl, gt_fl_len al f t (k0 + 1)]
theorem gt_fv_upd (al : Nat → Nat) (f : Nat → Int32) {j k : Nat} (x : Int32) (h : k ≠ j) (o : Nat) : gt_fv al (upd f j x) k o = gt_fv al f k o := by
  match o with
  | 0 => simp [gt_fv, upd_n f x h]
  | 1 => rfl
  | n + 2 => rfl
theorem gt_fl_out (al : Nat → Nat) (f : Nat → Int32) (x : Int32) : ∀ (l : List Nat) (k0 j : Nat), j < k0 → gt_fl al (upd f j x) k0 l = gt_fl al f k0 l
  | [], _, _, _ => rfl
  | o :: t, k0, j, h => by
    rw [gt_fl, gt_fl, gt_fl_out al f x t (k0 + 1) j (by omega), gt_fv_upd al f x (by omega)]
theorem gt_fl_set (al : Nat → Nat) (f : Nat → Int32) (x : Int32) : ∀ (l : List Nat) (k0 k : Nat), l[k]? = some 0 → (gt_fl al f k0 l).set k (.int x) = gt_fl al (upd f (k0 + k) x) k0 l
  | [], _, _, h => by simp at h
  | o :: t, k0, 0, h => by
    simp at h
    subst h
    simp only [gt_fl, List.set_cons_zero, Nat.add_zero]
    rw [gt_fl_out al f x t (k0 + 1) k0 (by omega)]
    simp [gt_fv, upd_s]
  | o :: t, k0, k + 1, h => by
    rw [List.getElem?_cons_succ] at h
    simp only [gt_fl, List.set_cons_succ]
    rw [gt_fl_set al f x t (k0 + 1) k h, gt_fv_upd al f x (by omega), show k0 + 1 + k = k0 + (k + 1) by omega]
theorem gt_fl_setq (al : Nat → Nat) (f : Nat → Int32) (a : Nat) : ∀ (l : List Nat) (k0 k : Nat), (gt_fl al f k0 l).set k (.ref (al a)) = gt_fl al f k0 (l.set k (a + 2))
  | [], _, _ => by simp [gt_fl]
  | o :: t, k0, 0 => by simp [gt_fl, gt_fv]
  | o :: t, k0, k + 1 => by
    simp only [gt_fl, List.set_cons_succ]
    rw [gt_fl_setq al f a t (k0 + 1) k]
theorem gt_wl_at (al : Nat → Nat) (ac : Nat → ClassId) (f : Mem) : ∀ (l : List Ly) (i0 k : Nat), (gt_wl al ac f i0 l)[k]? = (l[k]?).map (fun q => (al (i0 + k), gt_we al ac (f (i0 + k)) q))
  | [], _, _ => by simp [gt_wl]
  | o :: t, i0, 0 => by simp [gt_wl]
  | o :: t, i0, k + 1 => by
    rw [gt_wl, List.getElem?_cons_succ, List.getElem?_cons_succ, gt_wl_at al ac f t (i0 + 1) k]
    rw [show i0 + 1 + k = i0 + (k + 1) by omega]
theorem gt_wl_len (al : Nat → Nat) (ac : Nat → ClassId) (f : Mem) : ∀ (l : List Ly) (i0 : Nat), (gt_wl al ac f i0 l).length = l.length
  | [], _ => rfl
  | o :: t, i0 => by simp [gt_wl, gt_wl_len al ac f t (i0 + 1)]
theorem gt_wl_low (al : Nat → Nat) (ac : Nat → ClassId) (f : Mem) (g : Nat → Int32) : ∀ (l : List Ly) (i0 j : Nat), j < i0 → gt_wl al ac (ur f j g) i0 l = gt_wl al ac f i0 l
  | [], _, _, _ => rfl
  | o :: t, i0, j, h => by
    rw [gt_wl, gt_wl, gt_wl_low al ac f g t (i0 + 1) j (by omega), ur_n f g (by omega)]
theorem gt_wl_high (al : Nat → Nat) (ac : Nat → ClassId) (f : Mem) (g : Nat → Int32) : ∀ (l : List Ly) (i0 j : Nat), i0 + l.length ≤ j → gt_wl al ac (ur f j g) i0 l = gt_wl al ac f i0 l
  | [], _, _, _ => rfl
  | o :: t, i0, j, h => by
    simp only [List.length_cons] at h
    rw [gt_wl, gt_wl, gt_wl_high al ac f g t (i0 + 1) j (by omega), ur_n f g (by omega)]
theorem gt_wl_set (al : Nat → Nat) (ac : Nat → ClassId) (f : Mem) (g : Nat → Int32) : ∀ (l : List Ly) (i0 k : Nat) (q : Ly), l[k]? = some q → (gt_wl al ac f i0 l).set k (al (i0 + k), gt_we al ac g q) = gt_wl al ac (ur f (i0 + k) g) i0 l
  | [], _, _, _, h => by simp at h
  | o :: t, i0, 0, q, h => by
    simp at h
    subst h
    simp only [gt_wl, List.set_cons_zero, Nat.add_zero]
    rw [gt_wl_low al ac f g t (i0 + 1) i0 (by omega), ur_s]
  | o :: t, i0, k + 1, q, h => by
    rw [List.getElem?_cons_succ] at h
    have e := gt_wl_set al ac f g t (i0 + 1) k q h
    rw [show i0 + 1 + k = i0 + (k + 1) by omega] at e
    simp only [gt_wl, List.set_cons_succ]
    rw [e, ur_n f g (by omega)]
theorem gt_wl_setq (al : Nat → Nat) (ac : Nat → ClassId) (f : Mem) (q' : Ly) : ∀ (l : List Ly) (i0 k : Nat), (gt_wl al ac f i0 l).set k (al (i0 + k), gt_we al ac (f (i0 + k)) q') = gt_wl al ac f i0 (l.set k q')
  | [], _, _ => by simp [gt_wl]
  | o :: t, i0, 0 => by simp [gt_wl]
  | o :: t, i0, k + 1 => by
    have e := gt_wl_setq al ac f q' t (i0 + 1) k
    rw [show i0 + 1 + k = i0 + (k + 1) by omega] at e
    simp only [gt_wl, List.set_cons_succ]
    rw [e]
theorem gt_wl_app (al : Nat → Nat) (ac : Nat → ClassId) (f : Mem) (q : Ly) : ∀ (l : List Ly) (i0 : Nat), gt_wl al ac f i0 (l ++ [q]) = gt_wl al ac f i0 l ++ [(al (i0 + l.length), gt_we al ac (f (i0 + l.length)) q)]
  | [], _ => by simp [gt_wl]
  | o :: t, i0 => by
    simp only [gt_wl, List.cons_append, List.length_cons]
    rw [gt_wl_app al ac f q t (i0 + 1), show i0 + 1 + t.length = i0 + (t.length + 1) by omega]
abbrev gt_wd (al : Nat → Nat) (ac : Nat → ClassId) (lay : List Ly) (f : Mem) : va_W := gt_wl al ac f 0 lay
theorem gt_wd_at {al : Nat → Nat} {ac : Nat → ClassId} {lay : List Ly} {f : Mem} {a : Nat} {q : Ly} (h : lay[a]? = some q) : (gt_wd al ac lay f)[a]? = some (al a, gt_we al ac (f a) q) := by
  rw [gt_wl_at, h, Nat.zero_add]
  rfl
theorem gt_wd_set {al : Nat → Nat} {ac : Nat → ClassId} {lay : List Ly} {f : Mem} {a : Nat} {q : Ly} (h : lay[a]? = some q) (g : Nat → Int32) : (gt_wd al ac lay f).set a (al a, gt_we al ac g q) = gt_wd al ac lay (ur f a g) := by
  have e := gt_wl_set al ac f g lay 0 a q h
  rw [Nat.zero_add] at e
  exact e
/-- the law's cells lie side by side, from al 0 on -/
def gt_al (al : Nat → Nat) : Prop := ∀ i, i < 1000 → al i = al 0 + i
abbrev gt_A (al : Nat → Nat) : Nat → Prop := fun q => al 0 ≤ q
theorem gt_D {al : Nat → Nat} (h : gt_al al) (ac : Nat → ClassId) {lay : List Ly} (hl : lay.length < 1000) (f : Mem) : va_D (gt_A al) (gt_wd al ac lay f) := by
  have key : ∀ (k : Nat) (q : Nat × va_E), (gt_wd al ac lay f)[k]? = some q → q.1 = al 0 + k := by
    intro k q hk
    have hlt : k < lay.length := by
      have := (List.getElem?_eq_some_iff.mp hk).1
      rwa [gt_wl_len] at this
    rw [gt_wl_at, Nat.zero_add] at hk
    cases hq : lay[k]? with
    | none => rw [hq] at hk; cases hk
    | some z =>
      rw [hq] at hk
      cases hk
      exact h k (by omega)
  refine ⟨fun i j p q hi hj e => ?_, fun k q hk => ?_⟩
  · have h1 := key i p hi
    have h2 := key j q hj
    omega
  · have h1 := key k q hk
    show al 0 ≤ q.1
    omega
def gt_tx (i : Nat) : String := ["enter", "leave", "wait", "notify", "all", "add", "set", "if", "jump"].getD i ""
def gt_len : List Nat := [5, 5, 4, 6, 3, 3, 3, 2, 4]
def gt_byt : List (List Int32) := [[101, 110, 116, 101, 114], [108, 101, 97, 118, 101], [119, 97, 105, 116], [110, 111, 116, 105, 102, 121], [97, 108, 108], [97, 100, 100], [115, 101, 116], [105, 102], [106, 117, 109, 112]]
end
section
/-- links between nest mates, which aren't among the good words -/
def gt_nest : List (String × Nat × MethodName) := [(RX1, 59, yX3_init), (RX10, 25, yX4_init), (RX4, 11, yX8_init), (RX4, 20, yX3_init), (RX10, 37, yX9_init), (RX10, 44, yX0_init), (RX10, 51, yX6_init), (RX6, 24, yX7_init), (RX1, 120, yX10_isCellNumber), (RX2, 26, yX10_isList), (RX1, 136, yX10_isMonitor)]
abbrev gt_tys (ac : Nat → ClassId) : List (ClassId × FieldType) := [(ac 0, .int), (ac 1, .boolean), (ac 2, .object RX3), (ac 3, .array .int)]
/-- what the tables say, at any state of the run -/
def gt_K (D : va_G) (al : Nat → Nat) (ac : Nat → ClassId) (U : State) : Prop := va_K D vwCl (gt_tys ac) U ∧ (∀ q ∈ gt_nest, va_Nw (.methodLinkNest q.1 q.2.1 q.2.2 RX10) U) ∧ (∀ i, i < 9 → vk_R RX4 (76 + 2 * i) (gt_tx i) (al (1000 + i)) U) ∧ va_AO RX3 U
/-- what lies outside the law's cells and is only read -/
def gt_E (al : Nat → Nat) (U : State) (H : Heap) : Prop := vk_S 9 gt_len gt_byt (fun i => al (1000 + i)) (fun i => al (1100 + i)) (gt_A al) U H ∧ va_Z "java/lang/String" "COMPACT_STRINGS" "Z" (.int 1) (gt_A al) U H ∧ va_Zq "jdk/internal/util/Preconditions" "SIOOBE_FORMATTER" "Ljava/util/function/BiFunction;" (gt_A al) U H
theorem gt_K.warm {D : va_G} {al : Nat → Nat} {ac : Nat → ClassId} {s U : State} (hW : s.WarmedH U.vm) (h : gt_K D al ac s) : gt_K D al ac U :=
  ⟨va_K.moved hW.alike h.1, fun q hq => va_Nw.warmM hW (h.2.1 q hq), fun i hi => vk_R.warm hW (h.2.2.1 i hi), va_AO.moved hW.alike h.2.2.2⟩
theorem gt_E.move {al : Nat → Nat} {s U : State} {H : Heap} {locs : List Loc} (hW : s.vm.Alike U.vm) (h : gt_E al s s.heap) (hS : va_S (gt_A al) s.heap H locs) : gt_E al U H :=
  ⟨vk_S.moved hW (h.1.kept hS.2.1), va_Z.moved hW (h.2.1.kept hS.2.1), va_Zq.moved hW (h.2.2.kept hS.2.1)⟩
/-- a method's start: the cells, the tables, the heap's size -/
def gt_P (D : va_G) (al : Nat → Nat) (ac : Nat → ClassId) (lay : List Ly) (f : Mem) (U : State) : Prop := va_P D vwCl (gt_wd al ac lay f) U.heap ∧ gt_K D al ac U ∧ gt_E al U U.heap ∧ U.heap.size = al lay.length
/-- its end -/
def gt_Q (D : va_G) (al : Nat → Nat) (ac : Nat → ClassId) (lay : List Ly) (post : Option Value → Mem → Prop) : Array Value → State → Outcome → State → Prop := fun _ st oc t =>
  (∃ (r : Option Value) (f : Mem), oc = .returned (r.map (cz al)) ∧ post r f ∧ va_P D vwCl (gt_wd al ac lay f) t.heap) ∧ va_F (gt_A al) st t
/-- A CONTRACT: from the arguments as and the memory f the method returns; post says of its answer and of the memory then; layout before and behind, cells and slots made -/
def Ct (M : MT) (mc ms : Nat) (lay lay' : List Ly) (as : List Value) (f : Mem) (post : Option Value → Mem → Prop) : Prop :=
  ∀ (l : Launch) (D : va_G) (al : Nat → Nat) (ac : Nat → ClassId), gt_al al → lay.length < 1000 → Met l (gt_y M) (gt_ws M) (gt_R M mc ms) (va_Pc (as.map (cz al)) (gt_P D al ac lay f)) (gt_Q D al ac lay' post) mc ms (gt_A al)
abbrev XT : Type := (Nat → Nat) → Array Value → State → Prop
abbrev ZT : Type := List Frame → Array Value → State → va_G → (Nat → Nat) → (Nat → ClassId) → State → Prop
/-- method, room, cells and slots made so far, what else is known, the goal, the layout -/
abbrev CT : Type := MT × Room × Nat × Nat × XT × ZT × List Ly
def gt_nX : XT := fun _ _ _ => True
def gt_Z (mc ms : Nat) (lay : List Ly) (post : Option Value → Mem → Prop) : ZT := fun below args s D al ac => MQ below (gt_Q D al ac lay post) args s mc ms (gt_A al)
/-- the machine stands in the method M -/
def gt_X (M : MT) (p : Program) (s : State) (m : MethodId) (args : Array Value) (meth : Method) (cc : Code) : Prop :=
  p.tables.exec = Jvm.exec ∧ cc.code = gt_c M ∧ cc.maxLocals = gt_L M ∧ meth.sig.returnType = gt_r M ∧ meth.locks = false ∧ s.vm.findClass (gt_y M).cls = some m.cls ∧ (∀ w ∈ gw, w.before args s = true) ∧ ((gt_y M).name = "<init>" → meth.name = "<init>")
def gt_S (c : CT) (D : va_G) (al : Nat → Nat) (ac : Nat → ClassId) (args : Array Value) (s : State) : Prop :=
  gt_al al ∧ c.2.2.2.2.2.2.length < 1000 ∧ gt_K D al ac s ∧ gt_E al s s.heap ∧ c.2.2.2.2.1 al args s ∧ s.heap.size + c.2.2.1 = al c.2.2.2.2.2.2.length ∧ al 0 ≤ s.heap.size
def gt_lv (al : Nat → Nat) (lv : List (Nat × Value)) : List (Nat × Value) := lv.map fun q => (q.1, cz al q.2)
/-- THE JUDGEMENT: from here the machine comes to the goal -/
def A (c : CT) (pc : Nat) (lv : List (Nat × Value)) (st : List Value) (f : Mem) : Prop :=
  ∀ (p : Program) (l : Launch) (e : Env) (s : State) (m : MethodId) (args : Array Value) (below : List Frame) (meth : Method) (cc : Code) (H : Heap) (locs : List Loc) (ls : Array Slot) (D : va_G) (al : Nat → Nat) (ac : Nat → ClassId),
    gt_X c.1 p s m args meth cc → gt_S c D al ac args s → va_P D vwCl (gt_wd al ac c.2.2.2.2.2.2 f) H → va_S (gt_A al) s.heap H locs → lv_has ls (gt_L c.1) (gt_lv al lv) →
    W p l e c.2.1 s m args below meth cc H locs c.2.2.1 c.2.2.2.1 (c.2.2.2.2.2.1 below args s D al ac) (F0 m pc ls (st.map (cz al)))
abbrev cM (M : MT) (mc ms : Nat) (lay lay' : List Ly) (post : Option Value → Mem → Prop) : CT := (M, gt_R M mc ms, 0, 0, gt_nX, gt_Z mc ms lay' post, lay)
theorem gt_lv_args (al : Nat → Nat) : ∀ (as : List Value) (i : Nat), lv_args i (as.map (cz al)) = gt_lv al (lv_args i as)
  | [], _ => rfl
  | v :: vs, i => by
    show (i, cz al v) :: lv_args _ (vs.map (cz al)) = (i, cz al v) :: gt_lv al (lv_args _ vs)
    rw [cz_cat, gt_lv_args al vs]
theorem gt_sl_len (al : Nat → Nat) : ∀ (as : List Value), (lg_sl (as.map (cz al))).length = (lg_sl as).length
  | [] => rfl
  | v :: vs => by
    have h := gt_sl_len al vs
    unfold lg_sl at h ⊢
    rw [List.map_cons, List.flatMap_cons, List.flatMap_cons, List.length_append, List.length_append, h, cz_cat]
    congr 1
    split <;> rfl
/-- a contract out of a walk from the entry -/
theorem Ct.of {M : MT} {mc ms : Nat} {lay lay' : List Ly} {as : List Value} {f : Mem} {post : Option Value → Mem → Prop} {lv : List (Nat × Value)} (hy : plainName (gt_y M).cls = true) (hn : (lg_sl as).length ≤ gt_L M) (hlv : lv_args 0 as = lv)
    (h : A (cM M mc ms lay lay' post) 0 lv [] f) : Ct M mc ms lay lay' as f post := by
  intro l D al ac hal hlen
  refine Met.ofW (cc := gt_c M) (maxL := gt_L M) (ret := gt_r M) hy rfl ?_
  intro p e s m args below meth c s₁ B hml hv
  obtain ⟨rfl, hP, hK, hE, hz⟩ := hv
  have hts := atoms_spec (ws := gt_ws M) B.pre
  have hown : s.vm.findClass (gt_y M).cls = some m.cls := findClass_of_methodNamed B.named
  have hl := lv_entry (as.map (cz al)) (n := gt_L M) (by rw [gt_sl_len]; exact hn)
  rw [lg_entry_eq]
  generalize (lg_sl (as.map (cz al)) ++ List.replicate (gt_L M - (lg_sl (as.map (cz al))).length) Slot.unset).toArray = ls at hl ⊢
  rw [gt_lv_args, hlv] at hl
  exact h p l e s m _ below meth c s.heap [] ls D al ac ⟨B.exec, B.bytes, hml, B.returns, B.notSynchronized, hown, fun w hw => hts w (List.mem_cons_of_mem _ hw), fun hn => ((name_of_methodNamed B.named B.method).1).trans hn⟩
    ⟨hal, hlen, hK, hE, trivial, hz, by rw [hz, hal lay.length hlen]; exact Nat.le_add_right _ _⟩ hP va_S.rf hl
/-- a contract's goal may be wider -/
theorem Ct.mono {M : MT} {mc ms : Nat} {lay lay' : List Ly} {as : List Value} {f : Mem} {post post' : Option Value → Mem → Prop} (h : Ct M mc ms lay lay' as f post) (hp : ∀ r g, post r g → post' r g) : Ct M mc ms lay lay' as f post' := by
  intro l D al ac hal hlen p e ha hc hk s m args below hf hap hP hT
  obtain ⟨k, o, h1, h2, h3, ⟨⟨⟨r, g, e1, e2, e3⟩, hF⟩, hL⟩⟩ := h l D al ac hal hlen p e ha hc hk s m args below hf hap hP hT
  exact ⟨k, o, h1, h2, h3, ⟨⟨r, g, e1, hp r g e2, e3⟩, hF⟩, hL⟩
end
section
/-! the rows of the judgement: an instruction each -/
theorem A_iconst {c : CT} {pc : Nat} {lv : List (Nat × Value)} {st : List Value} {f : Mem} {n : Int} {v : Int32} (hd : decode (gt_c c.1) pc = .ok (.iconst n, 1)) (hv : Int32.ofInt n = v) (k : A c (pc + 1) lv (.int v :: st) f) : A c pc lv (st) f := fun p l e s m args below meth cc H locs ls D al ac hX hS hP hV hl => lv_iconst hX.1 hX.2.1 hd hv (k p l e s m args below meth cc H locs ls D al ac hX hS hP hV hl)
theorem A_bipush {c : CT} {pc : Nat} {lv : List (Nat × Value)} {st : List Value} {f : Mem} {n : Int} {v : Int32} (hd : decode (gt_c c.1) pc = .ok (.bipush n, 2)) (hv : (Int8.ofInt n).toInt32 = v) (k : A c (pc + 2) lv (.int v :: st) f) : A c pc lv (st) f := fun p l e s m args below meth cc H locs ls D al ac hX hS hP hV hl => lv_bipush hX.1 hX.2.1 hd hv (k p l e s m args below meth cc H locs ls D al ac hX hS hP hV hl)
theorem A_sipush {c : CT} {pc : Nat} {lv : List (Nat × Value)} {st : List Value} {f : Mem} {n : Int} {v : Int32} (hd : decode (gt_c c.1) pc = .ok (.sipush n, 3)) (hv : (Int16.ofInt n).toInt32 = v) (k : A c (pc + 3) lv (.int v :: st) f) : A c pc lv (st) f := fun p l e s m args below meth cc H locs ls D al ac hX hS hP hV hl => lv_sipush hX.1 hX.2.1 hd hv (k p l e s m args below meth cc H locs ls D al ac hX hS hP hV hl)
theorem A_lconst {c : CT} {pc : Nat} {lv : List (Nat × Value)} {st : List Value} {f : Mem} {n : Fin 2} {v : Int64} (hd : decode (gt_c c.1) pc = .ok (.lconst n, 1)) (hv : Int64.ofNat (n : Nat) = v) (k : A c (pc + 1) lv (.long v :: st) f) : A c pc lv (st) f := fun p l e s m args below meth cc H locs ls D al ac hX hS hP hV hl => lv_lconst hX.1 hX.2.1 hd hv (k p l e s m args below meth cc H locs ls D al ac hX hS hP hV hl)
theorem A_iadd {c : CT} {pc : Nat} {lv : List (Nat × Value)} {st : List Value} {f : Mem} {x y : Int32} (hd : decode (gt_c c.1) pc = .ok (.iadd, 1)) (k : A c (pc + 1) lv (.int (x + y) :: st) f) : A c pc lv (.int y :: .int x :: st) f := fun p l e s m args below meth cc H locs ls D al ac hX hS hP hV hl => lv_iadd hX.1 hX.2.1 hd (k p l e s m args below meth cc H locs ls D al ac hX hS hP hV hl)
theorem A_isub {c : CT} {pc : Nat} {lv : List (Nat × Value)} {st : List Value} {f : Mem} {x y : Int32} (hd : decode (gt_c c.1) pc = .ok (.isub, 1)) (k : A c (pc + 1) lv (.int (x - y) :: st) f) : A c pc lv (.int y :: .int x :: st) f := fun p l e s m args below meth cc H locs ls D al ac hX hS hP hV hl => lv_isub hX.1 hX.2.1 hd (k p l e s m args below meth cc H locs ls D al ac hX hS hP hV hl)
theorem A_imul {c : CT} {pc : Nat} {lv : List (Nat × Value)} {st : List Value} {f : Mem} {x y : Int32} (hd : decode (gt_c c.1) pc = .ok (.imul, 1)) (k : A c (pc + 1) lv (.int (x * y) :: st) f) : A c pc lv (.int y :: .int x :: st) f := fun p l e s m args below meth cc H locs ls D al ac hX hS hP hV hl => lv_imul hX.1 hX.2.1 hd (k p l e s m args below meth cc H locs ls D al ac hX hS hP hV hl)
theorem A_iand {c : CT} {pc : Nat} {lv : List (Nat × Value)} {st : List Value} {f : Mem} {x y : Int32} (hd : decode (gt_c c.1) pc = .ok (.iand, 1)) (k : A c (pc + 1) lv (.int (x &&& y) :: st) f) : A c pc lv (.int y :: .int x :: st) f := fun p l e s m args below meth cc H locs ls D al ac hX hS hP hV hl => lv_iand hX.1 hX.2.1 hd (k p l e s m args below meth cc H locs ls D al ac hX hS hP hV hl)
theorem A_ior {c : CT} {pc : Nat} {lv : List (Nat × Value)} {st : List Value} {f : Mem} {x y : Int32} (hd : decode (gt_c c.1) pc = .ok (.ior, 1)) (k : A c (pc + 1) lv (.int (x ||| y) :: st) f) : A c pc lv (.int y :: .int x :: st) f := fun p l e s m args below meth cc H locs ls D al ac hX hS hP hV hl => lv_ior hX.1 hX.2.1 hd (k p l e s m args below meth cc H locs ls D al ac hX hS hP hV hl)
theorem A_ixor {c : CT} {pc : Nat} {lv : List (Nat × Value)} {st : List Value} {f : Mem} {x y : Int32} (hd : decode (gt_c c.1) pc = .ok (.ixor, 1)) (k : A c (pc + 1) lv (.int (x ^^^ y) :: st) f) : A c pc lv (.int y :: .int x :: st) f := fun p l e s m args below meth cc H locs ls D al ac hX hS hP hV hl => lv_ixor hX.1 hX.2.1 hd (k p l e s m args below meth cc H locs ls D al ac hX hS hP hV hl)
theorem A_ishl {c : CT} {pc : Nat} {lv : List (Nat × Value)} {st : List Value} {f : Mem} {x y : Int32} (hd : decode (gt_c c.1) pc = .ok (.ishl, 1)) (k : A c (pc + 1) lv (.int (x <<< (y &&& 31)) :: st) f) : A c pc lv (.int y :: .int x :: st) f := fun p l e s m args below meth cc H locs ls D al ac hX hS hP hV hl => lv_ishl hX.1 hX.2.1 hd (k p l e s m args below meth cc H locs ls D al ac hX hS hP hV hl)
theorem A_ishr {c : CT} {pc : Nat} {lv : List (Nat × Value)} {st : List Value} {f : Mem} {x y : Int32} (hd : decode (gt_c c.1) pc = .ok (.ishr, 1)) (k : A c (pc + 1) lv (.int (x >>> (y &&& 31)) :: st) f) : A c pc lv (.int y :: .int x :: st) f := fun p l e s m args below meth cc H locs ls D al ac hX hS hP hV hl => lv_ishr hX.1 hX.2.1 hd (k p l e s m args below meth cc H locs ls D al ac hX hS hP hV hl)
theorem A_irem {c : CT} {pc : Nat} {lv : List (Nat × Value)} {st : List Value} {f : Mem} {x y : Int32} (hd : decode (gt_c c.1) pc = .ok (.irem, 1)) (hne : ¬ y = 0) (k : A c (pc + 1) lv (.int (x - x / y * y) :: st) f) : A c pc lv (.int y :: .int x :: st) f := fun p l e s m args below meth cc H locs ls D al ac hX hS hP hV hl => lv_irem hX.1 hX.2.1 hd hne (k p l e s m args below meth cc H locs ls D al ac hX hS hP hV hl)
theorem A_ineg {c : CT} {pc : Nat} {lv : List (Nat × Value)} {st : List Value} {f : Mem} {x : Int32} (hd : decode (gt_c c.1) pc = .ok (.ineg, 1)) (k : A c (pc + 1) lv (.int (-x) :: st) f) : A c pc lv (.int x :: st) f := fun p l e s m args below meth cc H locs ls D al ac hX hS hP hV hl => lv_ineg hX.1 hX.2.1 hd (k p l e s m args below meth cc H locs ls D al ac hX hS hP hV hl)
theorem A_iushr {c : CT} {pc : Nat} {lv : List (Nat × Value)} {st : List Value} {f : Mem} {x y : Int32} (hd : decode (gt_c c.1) pc = .ok (.iushr, 1)) (k : A c (pc + 1) lv (.int ((x.toUInt32 >>> (y.toUInt32 &&& Int32.toUInt32 31)).toInt32) :: st) f) : A c pc lv (.int y :: .int x :: st) f := fun p l e s m args below meth cc H locs ls D al ac hX hS hP hV hl => lv_iushr hX.1 hX.2.1 hd rfl (k p l e s m args below meth cc H locs ls D al ac hX hS hP hV hl)
theorem A_ladd {c : CT} {pc : Nat} {lv : List (Nat × Value)} {st : List Value} {f : Mem} {x y : Int64} (hd : decode (gt_c c.1) pc = .ok (.ladd, 1)) (k : A c (pc + 1) lv (.long (x + y) :: st) f) : A c pc lv (.long y :: .long x :: st) f := fun p l e s m args below meth cc H locs ls D al ac hX hS hP hV hl => lv_ladd hX.1 hX.2.1 hd (k p l e s m args below meth cc H locs ls D al ac hX hS hP hV hl)
theorem A_lcmp {c : CT} {pc : Nat} {lv : List (Nat × Value)} {st : List Value} {f : Mem} {x y : Int64} (hd : decode (gt_c c.1) pc = .ok (.lcmp, 1)) (k : A c (pc + 1) lv (.int (lg_cmp x y) :: st) f) : A c pc lv (.long y :: .long x :: st) f := fun p l e s m args below meth cc H locs ls D al ac hX hS hP hV hl => W.lcmp hX.1 hX.2.1 hd (k p l e s m args below meth cc H locs ls D al ac hX hS hP hV hl)
theorem A_i2l {c : CT} {pc : Nat} {lv : List (Nat × Value)} {st : List Value} {f : Mem} {x : Int32} (hd : decode (gt_c c.1) pc = .ok (.i2l, 1)) (k : A c (pc + 1) lv (.long x.toInt64 :: st) f) : A c pc lv (.int x :: st) f := fun p l e s m args below meth cc H locs ls D al ac hX hS hP hV hl => lv_i2l hX.1 hX.2.1 hd rfl (k p l e s m args below meth cc H locs ls D al ac hX hS hP hV hl)
theorem A_i2c {c : CT} {pc : Nat} {lv : List (Nat × Value)} {st : List Value} {f : Mem} {x : Int32} (hd : decode (gt_c c.1) pc = .ok (.i2c, 1)) (k : A c (pc + 1) lv (.int (x.toUInt32 % 65536).toInt32 :: st) f) : A c pc lv (.int x :: st) f := fun p l e s m args below meth cc H locs ls D al ac hX hS hP hV hl => lv_i2c hX.1 hX.2.1 hd rfl (k p l e s m args below meth cc H locs ls D al ac hX hS hP hV hl)
theorem A_dup {c : CT} {pc : Nat} {lv : List (Nat × Value)} {st : List Value} {f : Mem} {v : Value} (hd : decode (gt_c c.1) pc = .ok (.dup, 1)) (hv : v.category = 1) (k : A c (pc + 1) lv (v :: v :: st) f) : A c pc lv (v :: st) f := fun p l e s m args below meth cc H locs ls D al ac hX hS hP hV hl => lv_dup hX.1 hX.2.1 hd (by rw [cz_cat]; exact hv) (k p l e s m args below meth cc H locs ls D al ac hX hS hP hV hl)
theorem A_pop {c : CT} {pc : Nat} {lv : List (Nat × Value)} {st : List Value} {f : Mem} {v : Value} (hd : decode (gt_c c.1) pc = .ok (.pop, 1)) (hv : v.category = 1) (k : A c (pc + 1) lv (st) f) : A c pc lv (v :: st) f := fun p l e s m args below meth cc H locs ls D al ac hX hS hP hV hl => lv_pop hX.1 hX.2.1 hd (by rw [cz_cat]; exact hv) (k p l e s m args below meth cc H locs ls D al ac hX hS hP hV hl)
theorem A_dup2 {c : CT} {pc : Nat} {lv : List (Nat × Value)} {st : List Value} {f : Mem} {v w : Value} (hd : decode (gt_c c.1) pc = .ok (.dup2, 1)) (hv : v.category = 1) (hw : w.category = 1) (k : A c (pc + 1) lv (v :: w :: v :: w :: st) f) : A c pc lv (v :: w :: st) f := fun p l e s m args below meth cc H locs ls D al ac hX hS hP hV hl => lv_dup2_11 hX.1 hX.2.1 hd (by rw [cz_cat]; exact hv) (by rw [cz_cat]; exact hw) (k p l e s m args below meth cc H locs ls D al ac hX hS hP hV hl)
theorem gt_lv_at {al : Nat → Nat} {lv : List (Nat × Value)} {j i : Nat} {v : Value} (h : lv[j]? = some (i, v)) : (gt_lv al lv)[j]? = some (i, cz al v) := by unfold gt_lv; rw [List.getElem?_map, h]; rfl
theorem A_iload_n {c : CT} {pc : Nat} {lv : List (Nat × Value)} {st : List Value} {f : Mem} {n : Fin 4} {i : Nat} {x : Int32} (hd : decode (gt_c c.1) pc = .ok (.iload_n n, 1)) (hi : (n : Nat) = i) (j : Nat) (hj : lv[j]? = some (i, .int x)) (k : A c (pc + 1) lv (.int x :: st) f) : A c pc lv st f := fun p l e s m args below meth cc H locs ls D al ac hX hS hP hV hl => lv_iload_n hX.1 hX.2.1 hd hi (lv_at hl j (gt_lv_at hj)) (k p l e s m args below meth cc H locs ls D al ac hX hS hP hV hl)
theorem A_iload {c : CT} {pc : Nat} {lv : List (Nat × Value)} {st : List Value} {f : Mem} {i : Nat} {x : Int32} (hd : decode (gt_c c.1) pc = .ok (.iload i, 2)) (j : Nat) (hj : lv[j]? = some (i, .int x)) (k : A c (pc + 2) lv (.int x :: st) f) : A c pc lv st f := fun p l e s m args below meth cc H locs ls D al ac hX hS hP hV hl => lv_iload hX.1 hX.2.1 hd (lv_at hl j (gt_lv_at hj)) (k p l e s m args below meth cc H locs ls D al ac hX hS hP hV hl)
theorem A_lload_n {c : CT} {pc : Nat} {lv : List (Nat × Value)} {st : List Value} {f : Mem} {n : Fin 4} {i : Nat} {x : Int64} (hd : decode (gt_c c.1) pc = .ok (.lload_n n, 1)) (hi : (n : Nat) = i) (j : Nat) (hj : lv[j]? = some (i, .long x)) (k : A c (pc + 1) lv (.long x :: st) f) : A c pc lv st f := fun p l e s m args below meth cc H locs ls D al ac hX hS hP hV hl => lv_lload_n hX.1 hX.2.1 hd hi (lv_at hl j (gt_lv_at hj)) (k p l e s m args below meth cc H locs ls D al ac hX hS hP hV hl)
theorem A_lload {c : CT} {pc : Nat} {lv : List (Nat × Value)} {st : List Value} {f : Mem} {i : Nat} {x : Int64} (hd : decode (gt_c c.1) pc = .ok (.lload i, 2)) (j : Nat) (hj : lv[j]? = some (i, .long x)) (k : A c (pc + 2) lv (.long x :: st) f) : A c pc lv st f := fun p l e s m args below meth cc H locs ls D al ac hX hS hP hV hl => lv_lload hX.1 hX.2.1 hd (lv_at hl j (gt_lv_at hj)) (k p l e s m args below meth cc H locs ls D al ac hX hS hP hV hl)
theorem A_aload_n {c : CT} {pc : Nat} {lv : List (Nat × Value)} {st : List Value} {f : Mem} {n : Fin 4} {i : Nat} {x : Nat} (hd : decode (gt_c c.1) pc = .ok (.aload_n n, 1)) (hi : (n : Nat) = i) (j : Nat) (hj : lv[j]? = some (i, .ref x)) (k : A c (pc + 1) lv (.ref x :: st) f) : A c pc lv st f := fun p l e s m args below meth cc H locs ls D al ac hX hS hP hV hl => lv_aload_n hX.1 hX.2.1 hd hi (lv_at hl j (gt_lv_at hj)) (k p l e s m args below meth cc H locs ls D al ac hX hS hP hV hl)
theorem A_aload {c : CT} {pc : Nat} {lv : List (Nat × Value)} {st : List Value} {f : Mem} {i : Nat} {x : Nat} (hd : decode (gt_c c.1) pc = .ok (.aload i, 2)) (j : Nat) (hj : lv[j]? = some (i, .ref x)) (k : A c (pc + 2) lv (.ref x :: st) f) : A c pc lv st f := fun p l e s m args below meth cc H locs ls D al ac hX hS hP hV hl => lv_aload hX.1 hX.2.1 hd (lv_at hl j (gt_lv_at hj)) (k p l e s m args below meth cc H locs ls D al ac hX hS hP hV hl)
theorem A_aload_nN {c : CT} {pc : Nat} {lv : List (Nat × Value)} {st : List Value} {f : Mem} {n : Fin 4} {i : Nat} (hd : decode (gt_c c.1) pc = .ok (.aload_n n, 1)) (hi : (n : Nat) = i) (j : Nat) (hj : lv[j]? = some (i, .null)) (k : A c (pc + 1) lv (.null :: st) f) : A c pc lv st f := fun p l e s m args below meth cc H locs ls D al ac hX hS hP hV hl => lv_aload_nN hX.1 hX.2.1 hd hi (lv_at hl j (gt_lv_at hj)) (k p l e s m args below meth cc H locs ls D al ac hX hS hP hV hl)
/-- a local's value set -/
def gt_ls (i : Nat) (v : Value) (lv : List (Nat × Value)) : List (Nat × Value) := (i, v) :: lv.filter (fun q => !(q.1 == i) && !(q.1 + 1 == i && q.2.category == 2))
theorem gt_lv_ls (al : Nat → Nat) (i : Nat) (v : Value) (lv : List (Nat × Value)) : (i, cz al v) :: (gt_lv al lv).filter (fun q => !(q.1 == i) && !(q.1 + 1 == i && q.2.category == 2)) = gt_lv al (gt_ls i v lv) := by
  unfold gt_ls gt_lv
  rw [List.map_cons, List.filter_map]
  congr 2
  refine List.filter_congr fun q _ => ?_
  simp only [Function.comp]
  rw [cz_cat]
theorem A_istore_n {c : CT} {pc : Nat} {lv : List (Nat × Value)} {st : List Value} {f : Mem} {n : Fin 4} {i : Nat} {x : Int32} {lv' : List (Nat × Value)} (hd : decode (gt_c c.1) pc = .ok (.istore_n n, 1)) (hi : (n : Nat) = i) (hn : i < gt_L c.1) (hlv : gt_ls i (.int x) lv = lv') (k : A c (pc + 1) lv' st f) : A c pc lv (.int x :: st) f := fun p l e s m args below meth cc H locs ls D al ac hX hS hP hV hl => lv_istore_n hX.1 hX.2.1 hd hi hl hn ((gt_lv_ls al i (.int x) lv).trans (by rw [hlv])) (fun ls' hl' => k p l e s m args below meth cc H locs ls' D al ac hX hS hP hV hl')
theorem A_istore {c : CT} {pc : Nat} {lv : List (Nat × Value)} {st : List Value} {f : Mem} {i : Nat} {x : Int32} {lv' : List (Nat × Value)} (hd : decode (gt_c c.1) pc = .ok (.istore i, 2)) (hn : i < gt_L c.1) (hlv : gt_ls i (.int x) lv = lv') (k : A c (pc + 2) lv' st f) : A c pc lv (.int x :: st) f := fun p l e s m args below meth cc H locs ls D al ac hX hS hP hV hl => lv_istore hX.1 hX.2.1 hd hl hn ((gt_lv_ls al i (.int x) lv).trans (by rw [hlv])) (fun ls' hl' => k p l e s m args below meth cc H locs ls' D al ac hX hS hP hV hl')
theorem A_astore_n {c : CT} {pc : Nat} {lv : List (Nat × Value)} {st : List Value} {f : Mem} {n : Fin 4} {i : Nat} {x : Nat} {lv' : List (Nat × Value)} (hd : decode (gt_c c.1) pc = .ok (.astore_n n, 1)) (hi : (n : Nat) = i) (hn : i < gt_L c.1) (hlv : gt_ls i (.ref x) lv = lv') (k : A c (pc + 1) lv' st f) : A c pc lv (.ref x :: st) f := fun p l e s m args below meth cc H locs ls D al ac hX hS hP hV hl => lv_astore_n hX.1 hX.2.1 hd hi hl hn ((gt_lv_ls al i (.ref x) lv).trans (by rw [hlv])) (fun ls' hl' => k p l e s m args below meth cc H locs ls' D al ac hX hS hP hV hl')
theorem A_astore {c : CT} {pc : Nat} {lv : List (Nat × Value)} {st : List Value} {f : Mem} {i : Nat} {x : Nat} {lv' : List (Nat × Value)} (hd : decode (gt_c c.1) pc = .ok (.astore i, 2)) (hn : i < gt_L c.1) (hlv : gt_ls i (.ref x) lv = lv') (k : A c (pc + 2) lv' st f) : A c pc lv (.ref x :: st) f := fun p l e s m args below meth cc H locs ls D al ac hX hS hP hV hl => lv_astore hX.1 hX.2.1 hd hl hn ((gt_lv_ls al i (.ref x) lv).trans (by rw [hlv])) (fun ls' hl' => k p l e s m args below meth cc H locs ls' D al ac hX hS hP hV hl')
theorem A_iinc {c : CT} {pc : Nat} {lv : List (Nat × Value)} {st : List Value} {f : Mem} {i : Nat} {n : Int} {x v : Int32} {lv' : List (Nat × Value)} (hd : decode (gt_c c.1) pc = .ok (.iinc i n, 3)) (j : Nat) (hj : lv[j]? = some (i, .int x)) (hv : x + Int32.ofInt n = v) (hn : i < gt_L c.1) (hlv : gt_ls i (.int v) lv = lv') (k : A c (pc + 3) lv' st f) : A c pc lv st f := fun p l e s m args below meth cc H locs ls D al ac hX hS hP hV hl => lv_iinc (k := j) (v := v) hX.1 hX.2.1 hd hl (gt_lv_at hj) hv hn ((gt_lv_ls al i (.int v) lv).trans (by rw [hlv])) (fun ls' hl' => k p l e s m args below meth cc H locs ls' D al ac hX hS hP hV hl')
theorem A_if_eq {c : CT} {pc : Nat} {lv : List (Nat × Value)} {st : List Value} {f : Mem} {x : Int32} {off : Int} {tgt : Nat} (hd : decode (gt_c c.1) pc = .ok (.ifCond .eq off, 3)) (ht : (pc : Int) + off = (tgt : Int)) (kt : x = 0 → A c tgt lv st f) (kf : ¬ x = 0 → A c (pc + 3) lv st f) : A c pc lv (.int x :: st) f := fun p l e s m args below meth cc H locs ls D al ac hX hS hP hV hl => lv_if_eq hX.1 hX.2.1 hd ht (fun h => kt h p l e s m args below meth cc H locs ls D al ac hX hS hP hV hl) (fun h => kf h p l e s m args below meth cc H locs ls D al ac hX hS hP hV hl)
theorem A_icmp_eq {c : CT} {pc : Nat} {lv : List (Nat × Value)} {st : List Value} {f : Mem} {x y : Int32} {off : Int} {tgt : Nat} (hd : decode (gt_c c.1) pc = .ok (.if_icmp .eq off, 3)) (ht : (pc : Int) + off = (tgt : Int)) (kt : x = y → A c tgt lv st f) (kf : ¬ x = y → A c (pc + 3) lv st f) : A c pc lv (.int y :: .int x :: st) f := fun p l e s m args below meth cc H locs ls D al ac hX hS hP hV hl => lv_icmp_eq hX.1 hX.2.1 hd ht (fun h => kt h p l e s m args below meth cc H locs ls D al ac hX hS hP hV hl) (fun h => kf h p l e s m args below meth cc H locs ls D al ac hX hS hP hV hl)
theorem A_if_ne {c : CT} {pc : Nat} {lv : List (Nat × Value)} {st : List Value} {f : Mem} {x : Int32} {off : Int} {tgt : Nat} (hd : decode (gt_c c.1) pc = .ok (.ifCond .ne off, 3)) (ht : (pc : Int) + off = (tgt : Int)) (kt : ¬ x = 0 → A c tgt lv st f) (kf : x = 0 → A c (pc + 3) lv st f) : A c pc lv (.int x :: st) f := fun p l e s m args below meth cc H locs ls D al ac hX hS hP hV hl => lv_if_ne hX.1 hX.2.1 hd ht (fun h => kt h p l e s m args below meth cc H locs ls D al ac hX hS hP hV hl) (fun h => kf h p l e s m args below meth cc H locs ls D al ac hX hS hP hV hl)
theorem A_icmp_ne {c : CT} {pc : Nat} {lv : List (Nat × Value)} {st : List Value} {f : Mem} {x y : Int32} {off : Int} {tgt : Nat} (hd : decode (gt_c c.1) pc = .ok (.if_icmp .ne off, 3)) (ht : (pc : Int) + off = (tgt : Int)) (kt : ¬ x = y → A c tgt lv st f) (kf : x = y → A c (pc + 3) lv st f) : A c pc lv (.int y :: .int x :: st) f := fun p l e s m args below meth cc H locs ls D al ac hX hS hP hV hl => lv_icmp_ne hX.1 hX.2.1 hd ht (fun h => kt h p l e s m args below meth cc H locs ls D al ac hX hS hP hV hl) (fun h => kf h p l e s m args below meth cc H locs ls D al ac hX hS hP hV hl)
theorem A_if_lt {c : CT} {pc : Nat} {lv : List (Nat × Value)} {st : List Value} {f : Mem} {x : Int32} {off : Int} {tgt : Nat} (hd : decode (gt_c c.1) pc = .ok (.ifCond .lt off, 3)) (ht : (pc : Int) + off = (tgt : Int)) (kt : x < 0 → A c tgt lv st f) (kf : ¬ x < 0 → A c (pc + 3) lv st f) : A c pc lv (.int x :: st) f := fun p l e s m args below meth cc H locs ls D al ac hX hS hP hV hl => lv_if_lt hX.1 hX.2.1 hd ht (fun h => kt h p l e s m args below meth cc H locs ls D al ac hX hS hP hV hl) (fun h => kf h p l e s m args below meth cc H locs ls D al ac hX hS hP hV hl)
theorem A_icmp_lt {c : CT} {pc : Nat} {lv : List (Nat × Value)} {st : List Value} {f : Mem} {x y : Int32} {off : Int} {tgt : Nat} (hd : decode (gt_c c.1) pc = .ok (.if_icmp .lt off, 3)) (ht : (pc : Int) + off = (tgt : Int)) (kt : x < y → A c tgt lv st f) (kf : ¬ x < y → A c (pc + 3) lv st f) : A c pc lv (.int y :: .int x :: st) f := fun p l e s m args below meth cc H locs ls D al ac hX hS hP hV hl => lv_icmp_lt hX.1 hX.2.1 hd ht (fun h => kt h p l e s m args below meth cc H locs ls D al ac hX hS hP hV hl) (fun h => kf h p l e s m args below meth cc H locs ls D al ac hX hS hP hV hl)
theorem A_if_ge {c : CT} {pc : Nat} {lv : List (Nat × Value)} {st : List Value} {f : Mem} {x : Int32} {off : Int} {tgt : Nat} (hd : decode (gt_c c.1) pc = .ok (.ifCond .ge off, 3)) (ht : (pc : Int) + off = (tgt : Int)) (kt : 0 ≤ x → A c tgt lv st f) (kf : ¬ 0 ≤ x → A c (pc + 3) lv st f) : A c pc lv (.int x :: st) f := fun p l e s m args below meth cc H locs ls D al ac hX hS hP hV hl => lv_if_ge hX.1 hX.2.1 hd ht (fun h => kt h p l e s m args below meth cc H locs ls D al ac hX hS hP hV hl) (fun h => kf h p l e s m args below meth cc H locs ls D al ac hX hS hP hV hl)
theorem A_icmp_ge {c : CT} {pc : Nat} {lv : List (Nat × Value)} {st : List Value} {f : Mem} {x y : Int32} {off : Int} {tgt : Nat} (hd : decode (gt_c c.1) pc = .ok (.if_icmp .ge off, 3)) (ht : (pc : Int) + off = (tgt : Int)) (kt : y ≤ x → A c tgt lv st f) (kf : ¬ y ≤ x → A c (pc + 3) lv st f) : A c pc lv (.int y :: .int x :: st) f := fun p l e s m args below meth cc H locs ls D al ac hX hS hP hV hl => lv_icmp_ge hX.1 hX.2.1 hd ht (fun h => kt h p l e s m args below meth cc H locs ls D al ac hX hS hP hV hl) (fun h => kf h p l e s m args below meth cc H locs ls D al ac hX hS hP hV hl)
theorem A_if_gt {c : CT} {pc : Nat} {lv : List (Nat × Value)} {st : List Value} {f : Mem} {x : Int32} {off : Int} {tgt : Nat} (hd : decode (gt_c c.1) pc = .ok (.ifCond .gt off, 3)) (ht : (pc : Int) + off = (tgt : Int)) (kt : 0 < x → A c tgt lv st f) (kf : ¬ 0 < x → A c (pc + 3) lv st f) : A c pc lv (.int x :: st) f := fun p l e s m args below meth cc H locs ls D al ac hX hS hP hV hl => lv_if_gt hX.1 hX.2.1 hd ht (fun h => kt h p l e s m args below meth cc H locs ls D al ac hX hS hP hV hl) (fun h => kf h p l e s m args below meth cc H locs ls D al ac hX hS hP hV hl)
theorem A_icmp_gt {c : CT} {pc : Nat} {lv : List (Nat × Value)} {st : List Value} {f : Mem} {x y : Int32} {off : Int} {tgt : Nat} (hd : decode (gt_c c.1) pc = .ok (.if_icmp .gt off, 3)) (ht : (pc : Int) + off = (tgt : Int)) (kt : y < x → A c tgt lv st f) (kf : ¬ y < x → A c (pc + 3) lv st f) : A c pc lv (.int y :: .int x :: st) f := fun p l e s m args below meth cc H locs ls D al ac hX hS hP hV hl => lv_icmp_gt hX.1 hX.2.1 hd ht (fun h => kt h p l e s m args below meth cc H locs ls D al ac hX hS hP hV hl) (fun h => kf h p l e s m args below meth cc H locs ls D al ac hX hS hP hV hl)
theorem A_if_le {c : CT} {pc : Nat} {lv : List (Nat × Value)} {st : List Value} {f : Mem} {x : Int32} {off : Int} {tgt : Nat} (hd : decode (gt_c c.1) pc = .ok (.ifCond .le off, 3)) (ht : (pc : Int) + off = (tgt : Int)) (kt : x ≤ 0 → A c tgt lv st f) (kf : ¬ x ≤ 0 → A c (pc + 3) lv st f) : A c pc lv (.int x :: st) f := fun p l e s m args below meth cc H locs ls D al ac hX hS hP hV hl => lv_if_le hX.1 hX.2.1 hd ht (fun h => kt h p l e s m args below meth cc H locs ls D al ac hX hS hP hV hl) (fun h => kf h p l e s m args below meth cc H locs ls D al ac hX hS hP hV hl)
theorem A_icmp_le {c : CT} {pc : Nat} {lv : List (Nat × Value)} {st : List Value} {f : Mem} {x y : Int32} {off : Int} {tgt : Nat} (hd : decode (gt_c c.1) pc = .ok (.if_icmp .le off, 3)) (ht : (pc : Int) + off = (tgt : Int)) (kt : x ≤ y → A c tgt lv st f) (kf : ¬ x ≤ y → A c (pc + 3) lv st f) : A c pc lv (.int y :: .int x :: st) f := fun p l e s m args below meth cc H locs ls D al ac hX hS hP hV hl => lv_icmp_le hX.1 hX.2.1 hd ht (fun h => kt h p l e s m args below meth cc H locs ls D al ac hX hS hP hV hl) (fun h => kf h p l e s m args below meth cc H locs ls D al ac hX hS hP hV hl)
theorem A_goto {c : CT} {pc : Nat} {lv : List (Nat × Value)} {st : List Value} {f : Mem} {off : Int} {tgt : Nat} (hd : decode (gt_c c.1) pc = .ok (.goto off, 3)) (ht : (pc : Int) + off = (tgt : Int)) (k : A c tgt lv st f) : A c pc lv st f := fun p l e s m args below meth cc H locs ls D al ac hX hS hP hV hl => lv_goto hX.1 hX.2.1 hd ht (k p l e s m args below meth cc H locs ls D al ac hX hS hP hV hl)
theorem A_tabOut {c : CT} {pc : Nat} {lv : List (Nat × Value)} {st : List Value} {f : Mem} {dflt lo hi : Int} {offs : Array Int} {len : Nat} {x : Int32} {tgt : Nat} (hd : decode (gt_c c.1) pc = .ok (.tableswitch dflt lo hi offs, len)) (h : x.toInt < lo ∨ hi < x.toInt) (ht : (pc : Int) + dflt = (tgt : Int)) (k : A c tgt lv st f) : A c pc lv (.int x :: st) f := fun p l e s m args below meth cc H locs ls D al ac hX hS hP hV hl => lv_tableOut hX.1 hX.2.1 hd h ht (k p l e s m args below meth cc H locs ls D al ac hX hS hP hV hl)
theorem A_tabIn {c : CT} {pc : Nat} {lv : List (Nat × Value)} {st : List Value} {f : Mem} {dflt lo hi : Int} {offs : Array Int} {len : Nat} {x : Int32} {off : Int} {tgt : Nat} (hd : decode (gt_c c.1) pc = .ok (.tableswitch dflt lo hi offs, len)) (h1 : ¬ x.toInt < lo) (h2 : ¬ hi < x.toInt) (ho : offs[(x.toInt - lo).toNat]? = some off) (ht : (pc : Int) + off = (tgt : Int)) (k : A c tgt lv st f) : A c pc lv (.int x :: st) f := fun p l e s m args below meth cc H locs ls D al ac hX hS hP hV hl => lv_tableIn hX.1 hX.2.1 hd h1 h2 ho ht (k p l e s m args below meth cc H locs ls D al ac hX hS hP hV hl)
theorem A_ldc {c : CT} {pc : Nat} {lv : List (Nat × Value)} {st : List Value} {f : Mem} {i : Nat} {v : Int32} (hd : decode (gt_c c.1) pc = .ok (.ldc i, 2)) (hw : Cond.constant (gt_y c.1).cls i v ∈ gw) (k : A c (pc + 2) lv (.int v :: st) f) : A c pc lv st f := fun p l e s m args below meth cc H locs ls D al ac hX hS hP hV hl => lv_ldc hX.1 hX.2.1 hX.2.2.2.2.2.1 (hX.2.2.2.2.2.2.1 _ hw) hd (k p l e s m args below meth cc H locs ls D al ac hX hS hP hV hl)
theorem A_ldcw {c : CT} {pc : Nat} {lv : List (Nat × Value)} {st : List Value} {f : Mem} {i : Nat} {v : Int32} (hd : decode (gt_c c.1) pc = .ok (.ldc_w i, 3)) (hw : Cond.constant (gt_y c.1).cls i v ∈ gw) (k : A c (pc + 3) lv (.int v :: st) f) : A c pc lv st f := fun p l e s m args below meth cc H locs ls D al ac hX hS hP hV hl => lv_ldcw hX.1 hX.2.1 hX.2.2.2.2.2.1 (hX.2.2.2.2.2.2.1 _ hw) hd (k p l e s m args below meth cc H locs ls D al ac hX hS hP hV hl)
theorem A_ldc2 {c : CT} {pc : Nat} {lv : List (Nat × Value)} {st : List Value} {f : Mem} {i : Nat} {v : Int64} (hd : decode (gt_c c.1) pc = .ok (.ldc2_w i, 3)) (hw : Cond.constantLong (gt_y c.1).cls i v ∈ gw) (k : A c (pc + 3) lv (.long v :: st) f) : A c pc lv st f := fun p l e s m args below meth cc H locs ls D al ac hX hS hP hV hl => lv_ldc2 hX.1 hX.2.1 hX.2.2.2.2.2.1 (hX.2.2.2.2.2.2.1 _ hw) hd (k p l e s m args below meth cc H locs ls D al ac hX hS hP hV hl)
theorem A_ldcS {c : CT} {pc : Nat} {lv : List (Nat × Value)} {st : List Value} {f : Mem} {i : Nat} (j : Nat) (hd : decode (gt_c c.1) pc = .ok (.ldc i, 2)) (hR : (gt_y c.1).cls = RX4) (hj : j < 9) (hi : i = 76 + 2 * j) (k : A c (pc + 2) lv (.ref (1000 + j) :: st) f) : A c pc lv st f := fun p l e s m args below meth cc H locs ls D al ac hX hS hP hV hl => by
  subst hi
  exact va_ldcS hX.1 hX.2.1 hX.2.2.2.2.2.1 (hR ▸ hS.2.2.1.2.2.1 j hj) hd (k p l e s m args below meth cc H locs ls D al ac hX hS hP hV hl)
theorem A_topi {c : CT} {pc : Nat} {lv : List (Nat × Value)} {st : List Value} {f : Mem} {x : Int32} (y : Int32) (h : x = y) (k : A c pc lv (.int y :: st) f) : A c pc lv (.int x :: st) f := by rw [h]; exact k
theorem A_eq {c : CT} {pc : Nat} {lv : List (Nat × Value)} {st : List Value} {f : Mem} {lv' : List (Nat × Value)} {st' : List Value} {f' : Mem} (h1 : lv = lv') (h2 : st = st') (h3 : f = f') (k : A c pc lv' st' f') : A c pc lv st f := by rw [h1, h2, h3]; exact k
theorem A_sub {c : CT} {pc : Nat} {lv : List (Nat × Value)} {st : List Value} {f : Mem} {lv' : List (Nat × Value)} (ks : List Nat) (h : lv_pick lv ks = lv') (k : A c pc lv' st f) : A c pc lv st f := fun p l e s m args below meth cc H locs ls D al ac hX hS hP hV hl => k p l e s m args below meth cc H locs ls D al ac hX hS hP hV (lv_sub hl ks (by
  subst h
  unfold lv_pick gt_lv
  rw [List.map_filterMap]
  congr 1
  funext j
  rw [List.getElem?_map]))
end
section
/-! fields -/
def FO (own : String) (idx ci k : Nat) (fin : Bool) (tk : FieldType) : Prop := ∃ (C : String) (T : u_T) (N : Nat) (ty : Nat → FieldType), vwCl[ci]? = some (C, T, N) ∧ k < N ∧ (∀ w ∈ u_ws C T N, w ∈ gw) ∧ Cond.fieldLink own idx (T k).1 (T k).2.1 (T k).2.2.1 ∈ gw ∧ (∀ k, k < N → parseFieldDescriptor (T k).2.2.1 = some (ty k)) ∧ (∀ a, a < N → ∀ b, b < N → a ≠ b → (T a).2.1 ≠ (T b).2.1) ∧ (T k).2.2.2 = fin ∧ ty k = tk ∧ (T k).1 = C
theorem gt_we_o (al : Nat → Nat) (ac : Nat → ClassId) (g : Nat → Int32) (ci n : Nat) (fl : List Nat) : gt_we al ac g (ci + 4, n, fl) = .inr (ci, gt_fl al g 0 fl) := rfl
theorem gt_fl_at0 {al : Nat → Nat} {g : Nat → Int32} {fl : List Nat} {k o : Nat} (h : fl[k]? = some o) : (gt_fl al g 0 fl)[k]? = some (gt_fv al g k o) := by rw [gt_fl_at, h, Nat.zero_add]; rfl
theorem A_get {c : CT} {pc : Nat} {lv : List (Nat × Value)} {st : List Value} {f : Mem} {a idx ci k n o : Nat} {fl : List Nat} {fin : Bool} {tk : FieldType} {v : Value} (hd : decode (gt_c c.1) pc = .ok (.getfield idx, 3)) (hF : FO (gt_y c.1).cls idx ci k fin tk) (hL : c.2.2.2.2.2.2[a]? = some (ci + 4, n, fl)) (hk : fl[k]? = some o) (hv : ∀ al, gt_fv al (f a) k o = cz al v) (kk : A c (pc + 3) lv (v :: st) f) : A c pc lv (.ref a :: st) f := by
  intro p l e s m args below meth cc H locs ls D al ac hX hS hP hV hl
  obtain ⟨C, T, N, ty, h1, h2, h3, h4, h5, h6, h7, h8, h9⟩ := hF
  exact va_get (tys := gt_tys ac) hX.1 hX.2.1 hX.2.2.2.2.2.2.1 h3 hX.2.2.2.2.2.1 hS.2.2.1.1 hP a (gt_wd_at hL) h1 k h2 (hX.2.2.2.2.2.2.1 _ h4) (fun x hx => hx) ((gt_fl_at0 hk).trans (by rw [hv al])) hd (kk p l e s m args below meth cc H locs ls D al ac hX hS hP hV hl)
theorem A_getI {c : CT} {pc : Nat} {lv : List (Nat × Value)} {st : List Value} {f : Mem} {a idx ci k n : Nat} {fl : List Nat} {fin : Bool} {tk : FieldType} (hd : decode (gt_c c.1) pc = .ok (.getfield idx, 3)) (hF : FO (gt_y c.1).cls idx ci k fin tk) (hL : c.2.2.2.2.2.2[a]? = some (ci + 4, n, fl)) (hk : fl[k]? = some 0) (kk : A c (pc + 3) lv (.int (f a k) :: st) f) : A c pc lv (.ref a :: st) f := A_get hd hF hL hk (fun _ => rfl) kk
theorem A_getR {c : CT} {pc : Nat} {lv : List (Nat × Value)} {st : List Value} {f : Mem} {a b idx ci k n : Nat} {fl : List Nat} {fin : Bool} {tk : FieldType} (hd : decode (gt_c c.1) pc = .ok (.getfield idx, 3)) (hF : FO (gt_y c.1).cls idx ci k fin tk) (hL : c.2.2.2.2.2.2[a]? = some (ci + 4, n, fl)) (hk : fl[k]? = some (b + 2)) (kk : A c (pc + 3) lv (.ref b :: st) f) : A c pc lv (.ref a :: st) f := A_get hd hF hL hk (fun _ => rfl) kk
theorem A_put {c : CT} {pc : Nat} {lv : List (Nat × Value)} {st : List Value} {f : Mem} {a idx ci k n : Nat} {fl : List Nat} {tk : FieldType} {x : Int32} (hd : decode (gt_c c.1) pc = .ok (.putfield idx, 3)) (hF : FO (gt_y c.1).cls idx ci k false tk) (hL : c.2.2.2.2.2.2[a]? = some (ci + 4, n, fl)) (hk : fl[k]? = some 0) (hn : narrow tk (.int x) = .int x) (hf : fits tk (.int x) = true) (kk : A c (pc + 3) lv st (u2 f a k x)) : A c pc lv (.int x :: .ref a :: st) f := by
  intro p l e s m args below meth cc H locs ls D al ac hX hS hP hV hl
  obtain ⟨C, T, N, ty, h1, h2, h3, h4, h5, h6, h7, h8, h9⟩ := hF
  have hlt : k < (gt_fl al (f a) 0 fl).length := by rw [gt_fl_len]; exact (List.getElem?_eq_some_iff.mp hk).1
  refine va_put (tys := gt_tys ac) (A := gt_A al) (H0 := s.heap) (v := .int x) hX.1 hX.2.1 hX.2.2.2.2.2.2.1 h3 ty h5 h6 hX.2.2.2.2.2.1 hS.2.2.1.1 hP (gt_D hS.1 ac hS.2.1 f) hV a (gt_wd_at hL) h1 k h2 (hX.2.2.2.2.2.2.1 _ h4) (fun x hx => hx) h7 ((h5 k h2).trans (by rw [h8])) hn hf hlt hd fun H1 locs1 hP1 _ hV1 => ?_
  rw [gt_fl_set al (f a) x fl 0 k hk, Nat.zero_add, ← gt_we_o al ac _ ci n fl, gt_wd_set hL] at hP1
  exact kk p l e s m args below meth cc H1 locs1 ls D al ac hX hS hP1 hV1 hl
theorem A_putI {c : CT} {pc : Nat} {lv : List (Nat × Value)} {st : List Value} {f : Mem} {a idx ci k n : Nat} {fl : List Nat} {x : Int32} (hd : decode (gt_c c.1) pc = .ok (.putfield idx, 3)) (hF : FO (gt_y c.1).cls idx ci k false .int) (hL : c.2.2.2.2.2.2[a]? = some (ci + 4, n, fl)) (hk : fl[k]? = some 0) (kk : A c (pc + 3) lv st (u2 f a k x)) : A c pc lv (.int x :: .ref a :: st) f := A_put hd hF hL hk rfl rfl kk
theorem gt_nz {x : Int32} (h : x = 0 ∨ x = 1) : narrow .boolean (.int x) = .int x ∧ fits .boolean (.int x) = true ∧ vp_nar .boolean x = x := by
  rcases h with rfl | rfl <;> decide
theorem A_putZ {c : CT} {pc : Nat} {lv : List (Nat × Value)} {st : List Value} {f : Mem} {a idx ci k n : Nat} {fl : List Nat} {x : Int32} (hd : decode (gt_c c.1) pc = .ok (.putfield idx, 3)) (hF : FO (gt_y c.1).cls idx ci k false .boolean) (hL : c.2.2.2.2.2.2[a]? = some (ci + 4, n, fl)) (hk : fl[k]? = some 0) (hx : x = 0 ∨ x = 1) (kk : A c (pc + 3) lv st (u2 f a k x)) : A c pc lv (.int x :: .ref a :: st) f := A_put hd hF hL hk (gt_nz hx).1 (gt_nz hx).2.1 kk
/-! arrays -/
theorem A_iaload {c : CT} {pc : Nat} {lv : List (Nat × Value)} {st : List Value} {f : Mem} {a n : Nat} {rl : List Nat} {i : Int32} (j : Nat) (hd : decode (gt_c c.1) pc = .ok (.iaload, 1)) (hL : c.2.2.2.2.2.2[a]? = some (0, n, rl)) (hi : i = nI j) (hj : j < n) (hn : n < 2 ^ 31) (kk : A c (pc + 1) lv (.int (f a j) :: st) f) : A c pc lv (.int i :: .ref a :: st) f := by
  intro p l e s m args below meth cc H locs ls D al ac hX hS hP hV hl
  subst hi
  refine va_iald (tys := gt_tys ac) hX.1 hX.2.1 hS.2.2.1.1 hP a 0 (gt_wd_at hL) rfl (vp_in_nI hj hn) hd ?_
  rw [nI_clamp (by omega)]
  exact kk p l e s m args below meth cc H locs ls D al ac hX hS hP hV hl
theorem A_iastore {c : CT} {pc : Nat} {lv : List (Nat × Value)} {st : List Value} {f : Mem} {a n : Nat} {rl : List Nat} {i x : Int32} (j : Nat) (hd : decode (gt_c c.1) pc = .ok (.iastore, 1)) (hL : c.2.2.2.2.2.2[a]? = some (0, n, rl)) (hi : i = nI j) (hj : j < n) (hn : n < 2 ^ 31) (kk : A c (pc + 1) lv st (u2 f a j x)) : A c pc lv (.int x :: .int i :: .ref a :: st) f := by
  intro p l e s m args below meth cc H locs ls D al ac hX hS hP hV hl
  subst hi
  refine va_iast (tys := gt_tys ac) (A := gt_A al) (H0 := s.heap) hX.1 hX.2.1 hS.2.2.1.1 hP (gt_D hS.1 ac hS.2.1 f) hV a 0 (gt_wd_at hL) rfl (vp_in_nI hj hn) hd fun H1 locs1 hP1 _ hV1 => ?_
  rw [nI_clamp (by omega)] at hP1
  have e9 := gt_wd_set (al := al) (ac := ac) (f := f) hL (upd (f a) j x)
  exact kk p l e s m args below meth cc H1 locs1 ls D al ac hX hS (e9 ▸ hP1) hV1 hl
theorem A_zaload {c : CT} {pc : Nat} {lv : List (Nat × Value)} {st : List Value} {f : Mem} {a n : Nat} {rl : List Nat} {i : Int32} (j : Nat) (hd : decode (gt_c c.1) pc = .ok (.baload, 1)) (hL : c.2.2.2.2.2.2[a]? = some (1, n, rl)) (hi : i = nI j) (hj : j < n) (hn : n < 2 ^ 31) (kk : A c (pc + 1) lv (.int (f a j) :: st) f) : A c pc lv (.int i :: .ref a :: st) f := by
  intro p l e s m args below meth cc H locs ls D al ac hX hS hP hV hl
  subst hi
  refine va_zald (tys := gt_tys ac) hX.1 hX.2.1 hS.2.2.1.1 hP a 1 (gt_wd_at hL) rfl (vp_in_nI hj hn) hd ?_
  rw [nI_clamp (by omega)]
  exact kk p l e s m args below meth cc H locs ls D al ac hX hS hP hV hl
theorem A_zastore {c : CT} {pc : Nat} {lv : List (Nat × Value)} {st : List Value} {f : Mem} {a n : Nat} {rl : List Nat} {i x : Int32} (j : Nat) (hd : decode (gt_c c.1) pc = .ok (.bastore, 1)) (hL : c.2.2.2.2.2.2[a]? = some (1, n, rl)) (hi : i = nI j) (hj : j < n) (hn : n < 2 ^ 31) (hx : x = 0 ∨ x = 1) (kk : A c (pc + 1) lv st (u2 f a j x)) : A c pc lv (.int x :: .int i :: .ref a :: st) f := by
  intro p l e s m args below meth cc H locs ls D al ac hX hS hP hV hl
  subst hi
  refine va_zast (tys := gt_tys ac) (A := gt_A al) (H0 := s.heap) hX.1 hX.2.1 hS.2.2.1.1 hP (gt_D hS.1 ac hS.2.1 f) hV a 1 (gt_wd_at hL) rfl (vp_in_nI hj hn) hd fun H1 locs1 hP1 _ hV1 => ?_
  rw [nI_clamp (by omega), (gt_nz hx).2.2] at hP1
  have e9 := gt_wd_set (al := al) (ac := ac) (f := f) hL (upd (f a) j x)
  exact kk p l e s m args below meth cc H1 locs1 ls D al ac hX hS (e9 ▸ hP1) hV1 hl
theorem gt_ra_at {al : Nat → Nat} {rl : List Nat} {j b : Nat} (h : rl[j]? = some (b + 2)) : gt_ra al rl j = some (al b) := by
  unfold gt_ra
  rw [List.getD_eq_getElem?_getD, h]
  rfl
theorem A_aaload2 {c : CT} {pc : Nat} {lv : List (Nat × Value)} {st : List Value} {f : Mem} {a b n : Nat} {rl : List Nat} {i : Int32} (j : Nat) (hd : decode (gt_c c.1) pc = .ok (.aaload, 1)) (hL : c.2.2.2.2.2.2[a]? = some (2, n, rl)) (hi : i = nI j) (hj : j < n) (hn : n < 2 ^ 31) (hr : rl[j]? = some (b + 2)) (kk : A c (pc + 1) lv (.ref b :: st) f) : A c pc lv (.int i :: .ref a :: st) f := by
  intro p l e s m args below meth cc H locs ls D al ac hX hS hP hV hl
  subst hi
  refine va_aldq (tys := gt_tys ac) hX.1 hX.2.1 hS.2.2.1.1 hP a 2 (gt_wd_at hL) rfl (vp_in_nI hj hn) hd ?_
  rw [nI_clamp (by omega), gt_ra_at hr]
  exact kk p l e s m args below meth cc H locs ls D al ac hX hS hP hV hl
theorem A_aaload3 {c : CT} {pc : Nat} {lv : List (Nat × Value)} {st : List Value} {f : Mem} {a b n : Nat} {rl : List Nat} {i : Int32} (j : Nat) (hd : decode (gt_c c.1) pc = .ok (.aaload, 1)) (hL : c.2.2.2.2.2.2[a]? = some (3, n, rl)) (hi : i = nI j) (hj : j < n) (hn : n < 2 ^ 31) (hr : rl[j]? = some (b + 2)) (kk : A c (pc + 1) lv (.ref b :: st) f) : A c pc lv (.int i :: .ref a :: st) f := by
  intro p l e s m args below meth cc H locs ls D al ac hX hS hP hV hl
  subst hi
  have hin : vp_in (nI j) n := vp_in_nI hj hn
  have hlt : (nI j).toNatClampNeg < n := Nat.not_le.mp fun q => hin (Or.inr q)
  refine W.aald (v := va_rf (gt_ra al rl (nI j).toNatClampNeg)) (ty := .array .int) hX.1 hX.2.1 (hP a _ (gt_wd_at hL)) ((hS.2.2.1.1.2 3 _ rfl).1 n (fun j => va_rf (gt_ra al rl j))) rfl (fun q => by cases q) (by show ¬ (nI j < 0 ∨ (arrV _ _ _).slots.size ≤ _); rw [arrV_size]; exact hin) (by show (arrV _ _ _).slots[_]? = _; rw [arrV_read _ _ hlt]) rfl rfl hd ?_
  rw [nI_clamp (by omega), gt_ra_at hr]
  exact kk p l e s m args below meth cc H locs ls D al ac hX hS hP hV hl
theorem A_alen {c : CT} {pc : Nat} {lv : List (Nat × Value)} {st : List Value} {f : Mem} {a n : Nat} {rl : List Nat} (hd : decode (gt_c c.1) pc = .ok (.arraylength, 1)) (hL : c.2.2.2.2.2.2[a]? = some (0, n, rl)) (kk : A c (pc + 1) lv (.int (nI n) :: st) f) : A c pc lv (.ref a :: st) f := by
  intro p l e s m args below meth cc H locs ls D al ac hX hS hP hV hl
  exact va_alen (tys := gt_tys ac) hX.1 hX.2.1 hS.2.2.1.1 hP a 0 (gt_wd_at hL) rfl rfl hd (kk p l e s m args below meth cc H locs ls D al ac hX hS hP hV hl)
/-- System.arraycopy of ints: n of them from sp on to dp on -/
def gt_cpy (f : Mem) (a0 sp a dp n : Nat) : Mem := ur f a (va_cpy (f a0) (f a) sp dp n)
def gt_CW (own : String) (idx : Nat) : Prop := Cond.methodLink own idx arraycopyName ∈ gw ∧ Cond.native arraycopyName ∈ gw ∧ Cond.static arraycopyName ∈ gw ∧ Cond.initialized "java/lang/System" ∈ gw
theorem A_copy {c : CT} {pc : Nat} {lv : List (Nat × Value)} {st : List Value} {f : Mem} {a a0 idx n0 n1 : Nat} {r0 r1 : List Nat} {sp dp n : Int32} (isp idp inn : Nat) (hd : decode (gt_c c.1) pc = .ok (.invokestatic idx, 3)) (hw : gt_CW (gt_y c.1).cls idx) (hL0 : c.2.2.2.2.2.2[a0]? = some (0, n0, r0)) (hL : c.2.2.2.2.2.2[a]? = some (0, n1, r1)) (h1 : sp = nI isp) (h2 : dp = nI idp) (h3 : n = nI inn) (h4 : isp + inn ≤ n0) (h5 : idp + inn ≤ n1) (h6 : n0 < 2 ^ 31 ∧ n1 < 2 ^ 31) (hR : 1 ≤ c.2.1.frames ∧ (st.map fun v => v.category).sum + 18 ≤ c.2.1.locals)
    (kk : A c (pc + 3) lv st (gt_cpy f a0 isp a idp inn)) : A c pc lv (.int n :: .int dp :: .ref a :: .int sp :: .ref a0 :: st) f := by
  intro p l e s m args below meth cc H locs ls D al ac hX hS hP hV hl
  subst h1; subst h2; subst h3
  have hcat : ((st.map (cz al)).map fun v => v.category).sum = (st.map fun v => v.category).sum := by
    rw [List.map_map]
    congr 2
    funext v
    exact cz_cat al v
  refine va_copyi (tys := gt_tys ac) (A := gt_A al) (H0 := s.heap) hX.1 hX.2.1 (hX.2.2.1.trans hl.1.symm) hX.2.2.2.2.2.1 (hX.2.2.2.2.2.2.1 _ hw.1) (hX.2.2.2.2.2.2.1 _ hw.2.1) (hX.2.2.2.2.2.2.1 _ hw.2.2.1) (hX.2.2.2.2.2.2.1 _ hw.2.2.2) hS.2.2.1.1 hP (gt_D hS.1 ac hS.2.1 f) hV a0 a 0 0 (gt_wd_at hL0) (gt_wd_at hL) rfl rfl rfl (nI_pos (by omega)) (nI_pos (by omega)) (nI_pos (by omega)) (by rw [nI_clamp (by omega), nI_clamp (by omega)]; exact h4) (by rw [nI_clamp (by omega), nI_clamp (by omega)]; exact h5) (fun _ _ => rfl) hR.1 (by rw [hcat]; exact hR.2) hd fun H1 locs1 hP1 _ hV1 => ?_
  rw [nI_clamp (by omega), nI_clamp (by omega), nI_clamp (by omega)] at hP1
  have e9 := gt_wd_set (al := al) (ac := ac) (f := f) hL (va_cpy (f a0) (f a) isp idp inn)
  exact kk p l e s m args below meth cc H1 locs1 ls D al ac hX hS (e9 ▸ hP1) hV1 hl
def gt_MW (own : String) (idx : Nat) : Prop := Cond.methodLink own idx Lib.Math.min.name ∈ gw ∧ Cond.static Lib.Math.min.name ∈ gw ∧ Cond.initialized "java/lang/Math" ∈ gw ∧ Cond.code Lib.Math.min.name Lib.Math.min.code 2 (some .int) ∈ gw
theorem A_min {c : CT} {pc : Nat} {lv : List (Nat × Value)} {st : List Value} {f : Mem} {idx : Nat} {x y : Int32} (hd : decode (gt_c c.1) pc = .ok (.invokestatic idx, 3)) (hw : gt_MW (gt_y c.1).cls idx) (hR : 1 ≤ c.2.1.frames ∧ (st.map fun v => v.category).sum + 13 ≤ c.2.1.locals) (hc : c.2.2.1 ≤ c.2.1.cells ∧ c.2.2.2.1 ≤ c.2.1.slots) (kk : A c (pc + 3) lv (.int (if y < x then y else x) :: st) f) : A c pc lv (.int y :: .int x :: st) f := by
  intro p l e s m args below meth cc H locs ls D al ac hX hS hP hV hl
  have hcat : ((st.map (cz al)).map fun v => v.category).sum = (st.map fun v => v.category).sum := by
    rw [List.map_map]
    congr 2
    funext v
    exact cz_cat al v
  exact va_mmin hX.1 hX.2.1 (hX.2.2.1.trans hl.1.symm) hX.2.2.2.2.2.1 (hX.2.2.2.2.2.2.1 _ hw.1) (hX.2.2.2.2.2.2.1 _ hw.2.1) (hX.2.2.2.2.2.2.1 _ hw.2.2.1) (hX.2.2.2.2.2.2.1 _ hw.2.2.2) hR.1 (by rw [hcat]; exact hR.2) hc.1 hc.2 hd (kk p l e s m args below meth cc H locs ls D al ac hX hS hP hV hl)
/-! answers -/
theorem A_iret {M : MT} {R : Room} {nc ns : Nat} {X : XT} {lay : List Ly} {post : Option Value → Mem → Prop} {pc : Nat} {lv : List (Nat × Value)} {f : Mem} {x : Int32} (hd : decode (gt_c M) pc = .ok (.ireturn, 1)) (hr : gt_r M = some .int) (hp : post (some (.int x)) f) : A (M, R, nc, ns, X, gt_Z nc ns lay post, lay) pc lv [.int x] f := by
  intro p l e s m args below meth cc H locs ls D al ac hX hS hP hV hl
  exact W.iret hX.1 hX.2.1 (hX.2.2.2.1.trans hr) (fun t ht hW => ⟨⟨some (.int x), f, rfl, hp, by rw [ht]; exact hP⟩, hV.F ht⟩) hV.2.2 hd hX.2.2.2.2.1
theorem A_nret {M : MT} {R : Room} {nc ns : Nat} {X : XT} {lay : List Ly} {post : Option Value → Mem → Prop} {pc : Nat} {lv : List (Nat × Value)} {f : Mem} {x : Int32} {ty : FieldType} (hd : decode (gt_c M) pc = .ok (.ireturn, 1)) (hr : gt_r M = some ty) (hn : narrow ty (.int x) = .int x) (hp : post (some (.int x)) f) : A (M, R, nc, ns, X, gt_Z nc ns lay post, lay) pc lv [.int x] f := by
  intro p l e s m args below meth cc H locs ls D al ac hX hS hP hV hl
  exact W.zret hX.1 hX.2.1 (hX.2.2.2.1.trans hr) hn (fun t ht hW => ⟨⟨some (.int x), f, rfl, hp, by rw [ht]; exact hP⟩, hV.F ht⟩) hV.2.2 hd hX.2.2.2.2.1
theorem A_zret {M : MT} {R : Room} {nc ns : Nat} {X : XT} {lay : List Ly} {post : Option Value → Mem → Prop} {pc : Nat} {lv : List (Nat × Value)} {f : Mem} {x : Int32} (hd : decode (gt_c M) pc = .ok (.ireturn, 1)) (hr : gt_r M = some .boolean) (hx : x = 0 ∨ x = 1) (hp : post (some (.int x)) f) : A (M, R, nc, ns, X, gt_Z nc ns lay post, lay) pc lv [.int x] f := A_nret hd hr (gt_nz hx).1 hp
theorem A_vret {M : MT} {R : Room} {nc ns : Nat} {X : XT} {lay : List Ly} {post : Option Value → Mem → Prop} {pc : Nat} {lv : List (Nat × Value)} {f : Mem} (hd : decode (gt_c M) pc = .ok (.return_, 1)) (hr : gt_r M = none) (hp : post none f) : A (M, R, nc, ns, X, gt_Z nc ns lay post, lay) pc lv [] f := by
  intro p l e s m args below meth cc H locs ls D al ac hX hS hP hV hl
  exact W.vret hX.1 hX.2.1 (hX.2.2.2.1.trans hr) (fun t ht hW => ⟨⟨none, f, rfl, hp, by rw [ht]; exact hP⟩, hV.F ht⟩) hV.2.2 hd hX.2.2.2.2.1
theorem A_aret {M : MT} {R : Room} {nc ns : Nat} {X : XT} {lay : List Ly} {post : Option Value → Mem → Prop} {pc : Nat} {lv : List (Nat × Value)} {f : Mem} {a : Nat} {C : String} (hd : decode (gt_c M) pc = .ok (.areturn, 1)) (hr : gt_r M = some (.object C)) (hp : post (some (.ref a)) f) : A (M, R, nc, ns, X, gt_Z nc ns lay post, lay) pc lv [.ref a] f := by
  intro p l e s m args below meth cc H locs ls D al ac hX hS hP hV hl
  exact W.aret hX.1 hX.2.1 (hX.2.2.2.1.trans hr) (Or.inl ⟨_, rfl⟩) (Or.inr ⟨_, rfl⟩) (fun t ht hW => ⟨⟨some (.ref a), f, rfl, hp, by rw [ht]; exact hP⟩, hV.F ht⟩) hV.2.2 hd hX.2.2.2.2.1
end
section
/-! calls -/
theorem gt_cat (al : Nat → Nat) (st : List Value) : ((st.map (cz al)).map fun v => v.category).sum = (st.map fun v => v.category).sum := by
  rw [List.map_map]
  congr 2
  funext v
  exact cz_cat al v
/-- the heap has just the law's cells behind the old ones -/
theorem gt_size {D : va_G} {al : Nat → Nat} {ac : Nat → ClassId} {lay : List Ly} {f : Mem} {s : State} {H : Heap} {nc : Nat} {locs : List Loc} (hal : gt_al al) (hlen : lay.length < 1000) (hz : s.heap.size + nc = al lay.length) (h0 : al 0 ≤ s.heap.size) (hP : va_P D vwCl (gt_wd al ac lay f) H) (hV : va_S (gt_A al) s.heap H locs) (hle : H.size ≤ s.heap.size + nc) : H.size = al lay.length := by
  refine Nat.le_antisymm (by omega) ?_
  rw [hal _ hlen]
  rcases Nat.eq_zero_or_pos lay.length with h | h
  · rw [h, Nat.add_zero]; exact Nat.le_trans h0 hV.1
  · obtain ⟨q, hq⟩ : ∃ q, lay[lay.length - 1]? = some q := ⟨_, List.getElem?_eq_getElem (by omega)⟩
    have h1 := (hP _ _ (gt_wd_at (al := al) (ac := ac) (f := f) hq)).lt
    have h2 := hal (lay.length - 1) (by omega)
    dsimp only at h1
    omega
theorem gt_stand_size {p : Program} {l : Launch} {e : Env} {R : Room} {s : State} {m : MethodId} {args : Array Value} {below : List Frame} {meth : Method} {c : Code} {T : State} {locs : List Loc} {cells slots : Nat} (X : Stand p l e R s m args below meth c T locs cells slots) : T.heap.size ≤ s.heap.size + cells := X.same.2.2.1
theorem gt_blind (av : List Value) (D : va_G) (al : Nat → Nat) (ac : Nat → ClassId) (lay : List Ly) (f : Mem) : FrameBlind (va_Pc av (gt_P D al ac lay f)) := by
  intro a U g mk h
  obtain ⟨h0, h1, h2, h3, h4⟩ := h
  refine ⟨h0, h1, ?_, ?_, h4⟩
  · exact ⟨va_K.moved (u := U) (U := U.calling g mk a) (Vm.Alike.refl U.vm) h2.1, fun q hq => va_Nw.same (u := U) (U := U.calling g mk a) rfl rfl (h2.2.1 q hq), fun i hi => vk_R.same (u := U) (U := U.calling g mk a) rfl (h2.2.2.1 i hi), va_AO.moved (u := U) (U := U.calling g mk a) (Vm.Alike.refl U.vm) h2.2.2.2⟩
  · exact ⟨vk_S.moved (u := U) (U := U.calling g mk a) (Vm.Alike.refl U.vm) h3.1, va_Z.moved (u := U) (U := U.calling g mk a) (Vm.Alike.refl U.vm) h3.2.1, va_Zq.moved (u := U) (U := U.calling g mk a) (Vm.Alike.refl U.vm) h3.2.2⟩
theorem gt_good {M : MT} (h : Cond.code (gt_y M) (gt_c M) (gt_L M) (gt_r M) ∈ gw) : GoodIn gw (gt_ws M) := by
  intro w hw
  rcases List.mem_cons.mp hw with rfl | h1
  · exact ⟨h, good_of_word (List.mem_filter.mp h).2⟩
  · exact ⟨h1, good_of_word (List.mem_filter.mp h1).2⟩
/-- the callee's own words: its code, its class, its descriptor -/
def gt_MO (M : MT) (n : Nat) : Prop := Cond.code (gt_y M) (gt_c M) (gt_L M) (gt_r M) ∈ gw ∧ Cond.initialized (gt_y M).cls ∈ gw ∧ ((gt_y M).cls ≠ "java/lang/invoke/MethodHandle" ∧ (gt_y M).cls ≠ "java/lang/invoke/VarHandle" ∧ (parseMethodDescriptor (gt_y M).desc).map (fun d => d.parameters.length) = some n)
/-- an instance method's -/
def gt_IO (M : MT) : Prop := Cond.instanceMethod (gt_y M) ∈ gw ∧ Cond.selects (gt_y M).cls (gt_y M) (gt_y M) ∈ gw
/-- the room for a call of M' -/
def gt_rm (R : Room) (M' : MT) : Prop := gt_fr M' + 1 ≤ R.frames ∧ 8 + (gt_L M' + 11) + gt_wo M' ≤ R.locals
theorem gt_CB {R : Room} {s : State} {args : Array Value} {own : String} {idx : Nat} {M : MT} {n mc ms : Nat} (hts : ∀ w ∈ gw, w.before args s = true) (hO : gt_MO M n) (hl : Cond.methodLink own idx (gt_y M) ∈ gw) (hR : gt_rm R M) : CallB R s args own idx (gt_y M) (gt_c M) (gt_L M) (gt_r M) (gt_ws M) (gt_R M mc ms) mc ms n :=
  callB_of n hts (gt_good hO.1) rfl rfl rfl (hts _ hO.2.1) (hts _ hl) hO.2.2 hR
/-- behind a call -/
theorem gt_behind {p : Program} {l : Launch} {e : Env} {R : Room} {s : State} {m : MethodId} {args : Array Value} {below : List Frame} {meth : Method} {cc : Code} {H : Heap} {locs : List Loc} {nc ns mc ms : Nat} {Q : State → Prop} {D : va_G} {al : Nat → Nat} {ac : Nat → ClassId} {lay' : List Ly} {post : Option Value → Mem → Prop} {pc : Nat} {ls : Array Slot} {st rest : List Value} {a : Array Value} {T : State}
    (hV : va_S (gt_A al) s.heap H locs) (X : Stand p l e R s m args below meth cc T locs nc ns) (hT : T.heap = H)
    (hr : va_Run p l e R s m args below meth cc H locs nc ns mc ms (F0 m pc ls st) (rest.map (cz al)) (gt_Q D al ac lay' post a) (gt_A al))
    (k : ∀ (r : Option Value) (g : Mem) (H1 : Heap) (locs1 : List Loc), post r g → va_P D vwCl (gt_wd al ac lay' g) H1 → va_S (gt_A al) s.heap H1 locs1 → W p l e R s m args below meth cc H1 locs1 (nc + mc) (ns + ms) Q (F0 m (pc + 3) ls ((r.toList ++ rest).map (cz al)))) : ∃ t, Steps p.tables e below (T.setTop (F0 m pc ls st)) t ∧ Q t := by
  obtain ⟨v, st₀, t, T', L, h0, X', hL, e1, e2, ⟨⟨r, g, hv, hp, hP⟩, hz, hk⟩, go⟩ := hr T hT X
  cases hv
  rw [h0] at hz hk
  have hV1 : va_S (gt_A al) s.heap T'.heap (locs ++ L) := ⟨Nat.le_trans hV.1 (by rw [e1]; exact hz), fun q h1 h2 => by rw [e1, hk q (Nat.lt_of_lt_of_le h1 hV.1) h2]; exact hV.2.1 q h1 h2, fun q hq => by
    rcases List.mem_append.mp hq with h | h
    · exact hV.2.2 q h
    · exact hL q h⟩
  obtain ⟨t2, a1, b1⟩ := k r g T'.heap (locs ++ L) hp (by rw [e1]; exact hP) hV1 T' rfl X'
  refine ⟨t2, go t2 ?_, b1⟩
  have es : (r.toList ++ rest).map (cz al) = (r.map (cz al)).toList ++ rest.map (cz al) := by cases r <;> simp
  rw [es] at a1
  exact a1
theorem gt_pre {D : va_G} {al : Nat → Nat} {ac : Nat → ClassId} {lay : List Ly} {f : Mem} {s : State} {H : Heap} {locs : List Loc} (as : List Value) (hK : gt_K D al ac s) (hE : gt_E al s s.heap) (hP : va_P D vwCl (gt_wd al ac lay f) H) (hV : va_S (gt_A al) s.heap H locs) (hz : H.size = al lay.length) : ∀ U : State, U.heap = H → s.WarmedH U.vm → va_Pc (as.map (cz al)) (gt_P D al ac lay f) (as.map (cz al)).toArray U := by
  intro U hU hW
  exact ⟨rfl, by rw [hU]; exact hP, hK.warm hW, by rw [hU]; exact hE.move hW.alike hV, by rw [hU]; exact hz⟩
/-- invokevirtual -/
theorem A_callV {M : MT} {R : Room} {nc ns : Nat} {X : XT} {Z : ZT} {lay : List Ly} {pc : Nat} {lv : List (Nat × Value)} {st : List Value} {f : Mem} {M' : MT} {idx n ci nn : Nat} {fl : List Nat} {post : Option Value → Mem → Prop} (As rest : List Value) (b : Nat) (hd : decode (gt_c M) pc = .ok (.invokevirtual idx, 3)) (hl' : Cond.methodLink (gt_y M).cls idx (gt_y M') ∈ gw) (hO : gt_MO M' n) (hI : gt_IO M') (hst : As.reverse ++ .ref b :: rest = st) (hn : As.length = n) (hR : gt_rm R M') (hrest : (rest.map fun v => v.category).sum ≤ 8) (hcs : nc ≤ R.cells ∧ ns ≤ R.slots) (hL : lay[b]? = some (ci + 4, nn, fl)) (hC : (vwCl[ci]?).map (fun q => q.1) = some (gt_y M').cls) (ct : Ct M' 0 0 lay lay (.ref b :: As) f post)
    (k : ∀ (r : Option Value) (g : Mem), post r g → A (M, R, nc, ns, X, Z, lay) (pc + 3) lv (r.toList ++ rest) g) : A (M, R, nc, ns, X, Z, lay) pc lv st f := by
  intro p l e s m args below meth cc H locs ls D al ac hX hS hP hV hl
  subst hst
  intro T hT XX
  have hz : H.size = al lay.length := gt_size hS.1 hS.2.1 hS.2.2.2.2.2.1 hS.2.2.2.2.2.2 hP hV (by rw [← hT]; exact gt_stand_size XX)
  obtain ⟨q, hq1, hq2⟩ : ∃ q : vw_C, vwCl[ci]? = some q ∧ q.1 = (gt_y M').cls := by
    cases h : vwCl[ci]? with
    | none => rw [h] at hC; cases hC
    | some q => rw [h] at hC; exact ⟨q, rfl, Option.some.inj hC⟩
  have hrec := va_recv hS.2.2.1.1 hP hq1 (gt_wd_at (al := al) (ac := ac) (f := f) hL)
  rw [hq2] at hrec
  refine gt_behind (rest := rest) (st := (As.reverse ++ .ref b :: rest).map (cz al)) hV XX hT (va_runV (As := As.map (cz al)) (b := al b) (C := (gt_y M').cls) ⟨hX.1, hX.2.1, hX.2.2.1, hX.2.2.2.2.2.1, hX.2.2.2.2.2.2.1⟩ (ct l D al ac hS.1 hS.2.1) ⟨gt_CB hX.2.2.2.2.2.2.1 hO hl' hR, hX.2.2.2.2.2.2.1 _ hI.1, hX.2.2.2.2.2.2.1 _ hI.2⟩ ⟨gt_blind _ D al ac lay f, hrec, gt_pre (.ref b :: As) hS.2.2.1 hS.2.2.2.1 hP hV hz⟩ rfl (by rw [List.length_map]; exact hn) hl.1 (by simp [cz, List.map_reverse]) (lv_room (by rw [gt_cat]; exact hrest)) hd hcs) ?_
  intro r g H1 locs1 hp hP1 hV1
  exact k r g hp p l e s m args below meth cc H1 locs1 ls D al ac hX hS hP1 hV1 hl
/-- invokestatic -/
theorem A_callS {M : MT} {R : Room} {nc ns : Nat} {X : XT} {Z : ZT} {lay : List Ly} {pc : Nat} {lv : List (Nat × Value)} {st : List Value} {f : Mem} {M' : MT} {idx n : Nat} {post : Option Value → Mem → Prop} (As rest : List Value) (hd : decode (gt_c M) pc = .ok (.invokestatic idx, 3)) (hl' : Cond.methodLink (gt_y M).cls idx (gt_y M') ∈ gw) (hO : gt_MO M' n) (hI : Cond.static (gt_y M') ∈ gw) (hst : As.reverse ++ rest = st) (hn : As.length = n) (hR : gt_rm R M') (hrest : (rest.map fun v => v.category).sum ≤ 8) (hcs : nc ≤ R.cells ∧ ns ≤ R.slots) (ct : Ct M' 0 0 lay lay As f post)
    (k : ∀ (r : Option Value) (g : Mem), post r g → A (M, R, nc, ns, X, Z, lay) (pc + 3) lv (r.toList ++ rest) g) : A (M, R, nc, ns, X, Z, lay) pc lv st f := by
  intro p l e s m args below meth cc H locs ls D al ac hX hS hP hV hl
  subst hst
  intro T hT XX
  have hz : H.size = al lay.length := gt_size hS.1 hS.2.1 hS.2.2.2.2.2.1 hS.2.2.2.2.2.2 hP hV (by rw [← hT]; exact gt_stand_size XX)
  refine gt_behind (rest := rest) (st := (As.reverse ++ rest).map (cz al)) hV XX hT (va_runS (As := As.map (cz al)) ⟨hX.1, hX.2.1, hX.2.2.1, hX.2.2.2.2.2.1, hX.2.2.2.2.2.2.1⟩ (ct l D al ac hS.1 hS.2.1) ⟨gt_CB hX.2.2.2.2.2.2.1 hO hl' hR, hX.2.2.2.2.2.2.1 _ hI⟩ ⟨gt_blind _ D al ac lay f, gt_pre As hS.2.2.1 hS.2.2.2.1 hP hV hz⟩ rfl (by rw [List.length_map]; exact hn) hl.1 (by simp [List.map_reverse]) (lv_room (by rw [gt_cat]; exact hrest)) hd hcs) ?_
  intro r g H1 locs1 hp hP1 hV1
  exact k r g hp p l e s m args below meth cc H1 locs1 ls D al ac hX hS hP1 hV1 hl
/-- invokestatic of a nest mate's private method -/
theorem A_callSN {M : MT} {R : Room} {nc ns : Nat} {X : XT} {Z : ZT} {lay : List Ly} {pc : Nat} {lv : List (Nat × Value)} {st : List Value} {f : Mem} {M' : MT} {idx n : Nat} {post : Option Value → Mem → Prop} (As rest : List Value) (hd : decode (gt_c M) pc = .ok (.invokestatic idx, 3)) (hl' : ((gt_y M).cls, idx, gt_y M') ∈ gt_nest) (hO : gt_MO M' n) (hI : Cond.static (gt_y M') ∈ gw) (hst : As.reverse ++ rest = st) (hn : As.length = n) (hR : gt_rm R M') (hrest : (rest.map fun v => v.category).sum ≤ 8) (hcs : nc ≤ R.cells ∧ ns ≤ R.slots) (ct : Ct M' 0 0 lay lay As f post)
    (k : ∀ (r : Option Value) (g : Mem), post r g → A (M, R, nc, ns, X, Z, lay) (pc + 3) lv (r.toList ++ rest) g) : A (M, R, nc, ns, X, Z, lay) pc lv st f := by
  intro p l e s m args below meth cc H locs ls D al ac hX hS hP hV hl
  subst hst
  intro T hT XX
  have hz : H.size = al lay.length := gt_size hS.1 hS.2.1 hS.2.2.2.2.2.1 hS.2.2.2.2.2.2 hP hV (by rw [← hT]; exact gt_stand_size XX)
  have hts := hX.2.2.2.2.2.2.1
  refine gt_behind (rest := rest) (st := (As.reverse ++ rest).map (cz al)) hV XX hT (va_runSN (As := As.map (cz al)) (host := RX10) ⟨hX.1, hX.2.1, hX.2.2.1, hX.2.2.2.2.2.1, hts⟩ (ct l D al ac hS.1 hS.2.1) ⟨va_cnB n hts (gt_good hO.1) rfl rfl rfl (hS.2.2.1.2.1 _ hl') (hts _ hO.2.1) hO.2.2 hR, hts _ hI, trivial⟩ ⟨gt_blind _ D al ac lay f, gt_pre As hS.2.2.1 hS.2.2.2.1 hP hV hz⟩ rfl (by rw [List.length_map]; exact hn) hl.1 (by simp [List.map_reverse]) (lv_room (by rw [gt_cat]; exact hrest)) hd hcs) ?_
  intro r g H1 locs1 hp hP1 hV1
  exact k r g hp p l e s m args below meth cc H1 locs1 ls D al ac hX hS hP1 hV1 hl
end
section
/-! methods: name, bytes, locals, answer, frames, words of their rooms; and the tables' words by their places -/
theorem ini_RX10 : Cond.initialized RX10 ∈ gw := mem_gw 68 (by decide +kernel) (by decide +kernel)
theorem ini_RX0 : Cond.initialized RX0 ∈ gw := mem_gw 75 (by decide +kernel) (by decide +kernel)
theorem ini_RX1 : Cond.initialized RX1 ∈ gw := mem_gw 69 (by decide +kernel) (by decide +kernel)
theorem ini_RX2 : Cond.initialized RX2 ∈ gw := mem_gw 78 (by decide +kernel) (by decide +kernel)
theorem ini_RX3 : Cond.initialized RX3 ∈ gw := mem_gw 70 (by decide +kernel) (by decide +kernel)
theorem ini_RX4 : Cond.initialized RX4 ∈ gw := mem_gw 72 (by decide +kernel) (by decide +kernel)
theorem ini_RX5 : Cond.initialized RX5 ∈ gw := mem_gw 85 (by decide +kernel) (by decide +kernel)
theorem ini_RX6 : Cond.initialized RX6 ∈ gw := mem_gw 76 (by decide +kernel) (by decide +kernel)
theorem ini_RX7 : Cond.initialized RX7 ∈ gw := mem_gw 77 (by decide +kernel) (by decide +kernel)
theorem ini_RX8 : Cond.initialized RX8 ∈ gw := mem_gw 73 (by decide +kernel) (by decide +kernel)
theorem ini_RX9 : Cond.initialized RX9 ∈ gw := mem_gw 74 (by decide +kernel) (by decide +kernel)
theorem ini_RL : Cond.initialized RL ∈ gw := mem_gw 67 (by decide +kernel) (by decide +kernel)
theorem ini_RX11 : Cond.initialized RX11 ∈ gw := mem_gw 79 (by decide +kernel) (by decide +kernel)
theorem ini_RJ9 : Cond.initialized RJ9 ∈ gw := mem_gw 86 (by decide +kernel) (by decide +kernel)
theorem ini_RJ0 : Cond.initialized RJ0 ∈ gw := mem_gw 80 (by decide +kernel) (by decide +kernel)
theorem ini_RJ1 : Cond.initialized RJ1 ∈ gw := mem_gw 81 (by decide +kernel) (by decide +kernel)
theorem ini_RJ2 : Cond.initialized RJ2 ∈ gw := mem_gw 83 (by decide +kernel) (by decide +kernel)
theorem ini_RJ10 : Cond.initialized RJ10 ∈ gw := mem_gw 84 (by decide +kernel) (by decide +kernel)
theorem ini_RJ7 : Cond.initialized RJ7 ∈ gw := mem_gw 71 (by decide +kernel) (by decide +kernel)
theorem ini_RJ3 : Cond.initialized RJ3 ∈ gw := mem_gw 82 (by decide +kernel) (by decide +kernel)
def MJ0_charAt_5068e : MT := (yJ0_charAt_5068e, cJ0_charAt_5068e, 2, some .char, 4, 85)
theorem oJ0_charAt_5068e : gt_MO MJ0_charAt_5068e 1 := ⟨mem_gw 514 (by decide +kernel) (by decide +kernel), ini_RJ0, (by decide +kernel)⟩
theorem iJ0_charAt_5068e : gt_IO MJ0_charAt_5068e := ⟨mem_gw 512 (by decide +kernel) (by decide +kernel), mem_gw 513 (by decide +kernel) (by decide +kernel)⟩
def MJ0_checkIndex_df160 : MT := (yJ0_checkIndex_df160, cJ0_checkIndex_df160, 2, none, 1, 22)
theorem oJ0_checkIndex_df160 : gt_MO MJ0_checkIndex_df160 2 := ⟨mem_gw 524 (by decide +kernel) (by decide +kernel), ini_RJ0, (by decide +kernel)⟩
theorem sJ0_checkIndex_df160 : Cond.static (gt_y MJ0_checkIndex_df160) ∈ gw := mem_gw 523 (by decide +kernel) (by decide +kernel)
def MJ0_coder_7d493 : MT := (yJ0_coder_7d493, cJ0_coder_7d493, 1, some .byte, 0, 0)
theorem oJ0_coder_7d493 : gt_MO MJ0_coder_7d493 0 := ⟨mem_gw 508 (by decide +kernel) (by decide +kernel), ini_RJ0, (by decide +kernel)⟩
theorem iJ0_coder_7d493 : gt_IO MJ0_coder_7d493 := ⟨mem_gw 506 (by decide +kernel) (by decide +kernel), mem_gw 507 (by decide +kernel) (by decide +kernel)⟩
def MJ0_isLatin1_aae02 : MT := (yJ0_isLatin1_aae02, cJ0_isLatin1_aae02, 1, some .boolean, 0, 0)
theorem oJ0_isLatin1_aae02 : gt_MO MJ0_isLatin1_aae02 0 := ⟨mem_gw 518 (by decide +kernel) (by decide +kernel), ini_RJ0, (by decide +kernel)⟩
theorem iJ0_isLatin1_aae02 : gt_IO MJ0_isLatin1_aae02 := ⟨mem_gw 516 (by decide +kernel) (by decide +kernel), mem_gw 517 (by decide +kernel) (by decide +kernel)⟩
def MJ0_length_8abf5 : MT := (yJ0_length_8abf5, cJ0_length_8abf5, 1, some .int, 1, 20)
theorem oJ0_length_8abf5 : gt_MO MJ0_length_8abf5 0 := ⟨mem_gw 504 (by decide +kernel) (by decide +kernel), ini_RJ0, (by decide +kernel)⟩
theorem iJ0_length_8abf5 : gt_IO MJ0_length_8abf5 := ⟨mem_gw 502 (by decide +kernel) (by decide +kernel), mem_gw 503 (by decide +kernel) (by decide +kernel)⟩
def MJ1_charAt_3b067 : MT := (yJ1_charAt_3b067, cJ1_charAt_3b067, 2, some .char, 2, 43)
theorem oJ1_charAt_3b067 : gt_MO MJ1_charAt_3b067 2 := ⟨mem_gw 521 (by decide +kernel) (by decide +kernel), ini_RJ1, (by decide +kernel)⟩
theorem sJ1_charAt_3b067 : Cond.static (gt_y MJ1_charAt_3b067) ∈ gw := mem_gw 520 (by decide +kernel) (by decide +kernel)
def MJ3_checkIndex_8e157 : MT := (yJ3_checkIndex_8e157, cJ3_checkIndex_8e157, 3, some .int, 0, 0)
theorem oJ3_checkIndex_8e157 : gt_MO MJ3_checkIndex_8e157 3 := ⟨mem_gw 529 (by decide +kernel) (by decide +kernel), ini_RJ3, (by decide +kernel)⟩
theorem sJ3_checkIndex_8e157 : Cond.static (gt_y MJ3_checkIndex_8e157) ∈ gw := mem_gw 528 (by decide +kernel) (by decide +kernel)
def MJ7_fill_53178 : MT := (yJ7_fill_53178, cJ7_fill_53178, 4, none, 0, 0)
theorem oJ7_fill_53178 : gt_MO MJ7_fill_53178 2 := ⟨mem_gw 122 (by decide +kernel) (by decide +kernel), ini_RJ7, (by decide +kernel)⟩
theorem sJ7_fill_53178 : Cond.static (gt_y MJ7_fill_53178) ∈ gw := mem_gw 121 (by decide +kernel) (by decide +kernel)
def MX0_allSo : MT := (yX0_allSo, cX0_allSo, 3, some .boolean, 1, 22)
theorem oX0_allSo : gt_MO MX0_allSo 1 := ⟨mem_gw 786 (by decide +kernel) (by decide +kernel), ini_RX0, (by decide +kernel)⟩
theorem iX0_allSo : gt_IO MX0_allSo := ⟨mem_gw 784 (by decide +kernel) (by decide +kernel), mem_gw 785 (by decide +kernel) (by decide +kernel)⟩
def MX0_append : MT := (yX0_append, cX0_append, 4, none, 0, 0)
theorem oX0_append : gt_MO MX0_append 3 := ⟨mem_gw 862 (by decide +kernel) (by decide +kernel), ini_RX0, (by decide +kernel)⟩
theorem iX0_append : gt_IO MX0_append := ⟨mem_gw 860 (by decide +kernel) (by decide +kernel), mem_gw 861 (by decide +kernel) (by decide +kernel)⟩
def MX0_init : MT := (yX0_init, cX0_init, 1, none, 1, 20)
theorem oX0_init : gt_MO MX0_init 0 := ⟨mem_gw 251 (by decide +kernel) (by decide +kernel), ini_RX0, (by decide +kernel)⟩
theorem nX0_init : Cond.instanceMethod (gt_y MX0_init) ∈ gw := mem_gw 250 (by decide +kernel) (by decide +kernel)
def MX0_isSo : MT := (yX0_isSo, cX0_isSo, 3, some .boolean, 0, 0)
theorem oX0_isSo : gt_MO MX0_isSo 3 := ⟨mem_gw 789 (by decide +kernel) (by decide +kernel), ini_RX0, (by decide +kernel)⟩
theorem sX0_isSo : Cond.static (gt_y MX0_isSo) ∈ gw := mem_gw 788 (by decide +kernel) (by decide +kernel)
def MX10_are : MT := (yX10_are, cX10_are, 2, some .int, 1, 23)
theorem oX10_are : gt_MO MX10_are 1 := ⟨mem_gw 704 (by decide +kernel) (by decide +kernel), ini_RX10, (by decide +kernel)⟩
theorem iX10_are : gt_IO MX10_are := ⟨mem_gw 702 (by decide +kernel) (by decide +kernel), mem_gw 703 (by decide +kernel) (by decide +kernel)⟩
def MX10_asNumber : MT := (yX10_asNumber, cX10_asNumber, 1, some .int, 0, 0)
theorem oX10_asNumber : gt_MO MX10_asNumber 1 := ⟨mem_gw 434 (by decide +kernel) (by decide +kernel), ini_RX10, (by decide +kernel)⟩
theorem sX10_asNumber : Cond.static (gt_y MX10_asNumber) ∈ gw := mem_gw 433 (by decide +kernel) (by decide +kernel)
def MX10_back : MT := (yX10_back, cX10_back, 1, some .int, 3, 69)
theorem oX10_back : gt_MO MX10_back 0 := ⟨mem_gw 899 (by decide +kernel) (by decide +kernel), ini_RX10, (by decide +kernel)⟩
theorem iX10_back : gt_IO MX10_back := ⟨mem_gw 897 (by decide +kernel) (by decide +kernel), mem_gw 898 (by decide +kernel) (by decide +kernel)⟩
def MX10_cause : MT := (yX10_cause, cX10_cause, 3, some .int, 1, 22)
theorem oX10_cause : gt_MO MX10_cause 2 := ⟨mem_gw 725 (by decide +kernel) (by decide +kernel), ini_RX10, (by decide +kernel)⟩
theorem iX10_cause : gt_IO MX10_cause := ⟨mem_gw 723 (by decide +kernel) (by decide +kernel), mem_gw 724 (by decide +kernel) (by decide +kernel)⟩
def MX10_cell : MT := (yX10_cell, cX10_cell, 2, some .int, 1, 20)
theorem oX10_cell : gt_MO MX10_cell 1 := ⟨mem_gw 448 (by decide +kernel) (by decide +kernel), ini_RX10, (by decide +kernel)⟩
theorem iX10_cell : gt_IO MX10_cell := ⟨mem_gw 446 (by decide +kernel) (by decide +kernel), mem_gw 447 (by decide +kernel) (by decide +kernel)⟩
def MX10_clear : MT := (yX10_clear, cX10_clear, 2, some .int, 0, 0)
theorem oX10_clear : gt_MO MX10_clear 0 := ⟨mem_gw 460 (by decide +kernel) (by decide +kernel), ini_RX10, (by decide +kernel)⟩
theorem iX10_clear : gt_IO MX10_clear := ⟨mem_gw 458 (by decide +kernel) (by decide +kernel), mem_gw 459 (by decide +kernel) (by decide +kernel)⟩
def MX10_condition : MT := (yX10_condition, cX10_condition, 4, some .int, 1, 23)
theorem oX10_condition : gt_MO MX10_condition 3 := ⟨mem_gw 858 (by decide +kernel) (by decide +kernel), ini_RX10, (by decide +kernel)⟩
theorem iX10_condition : gt_IO MX10_condition := ⟨mem_gw 856 (by decide +kernel) (by decide +kernel), mem_gw 857 (by decide +kernel) (by decide +kernel)⟩
def MX10_feed : MT := (yX10_feed, cX10_feed, 2, some .int, 1, 21)
theorem oX10_feed : gt_MO MX10_feed 1 := ⟨mem_gw 452 (by decide +kernel) (by decide +kernel), ini_RX10, (by decide +kernel)⟩
theorem iX10_feed : gt_IO MX10_feed := ⟨mem_gw 450 (by decide +kernel) (by decide +kernel), mem_gw 451 (by decide +kernel) (by decide +kernel)⟩
def MX10_follow : MT := (yX10_follow, cX10_follow, 7, some .int, 5, 115)
theorem oX10_follow : gt_MO MX10_follow 3 := ⟨mem_gw 666 (by decide +kernel) (by decide +kernel), ini_RX10, (by decide +kernel)⟩
theorem iX10_follow : gt_IO MX10_follow := ⟨mem_gw 664 (by decide +kernel) (by decide +kernel), mem_gw 665 (by decide +kernel) (by decide +kernel)⟩
def MX10_found : MT := (yX10_found, cX10_found, 2, some .int, 5, 117)
theorem oX10_found : gt_MO MX10_found 1 := ⟨mem_gw 733 (by decide +kernel) (by decide +kernel), ini_RX10, (by decide +kernel)⟩
theorem iX10_found : gt_IO MX10_found := ⟨mem_gw 731 (by decide +kernel) (by decide +kernel), mem_gw 732 (by decide +kernel) (by decide +kernel)⟩
def MX10_gate : MT := (yX10_gate, cX10_gate, 3, some .int, 1, 22)
theorem oX10_gate : gt_MO MX10_gate 2 := ⟨mem_gw 692 (by decide +kernel) (by decide +kernel), ini_RX10, (by decide +kernel)⟩
theorem iX10_gate : gt_IO MX10_gate := ⟨mem_gw 690 (by decide +kernel) (by decide +kernel), mem_gw 691 (by decide +kernel) (by decide +kernel)⟩
def MX10_get : MT := (yX10_get, cX10_get, 3, some .int, 1, 22)
theorem oX10_get : gt_MO MX10_get 2 := ⟨mem_gw 888 (by decide +kernel) (by decide +kernel), ini_RX10, (by decide +kernel)⟩
theorem iX10_get : gt_IO MX10_get := ⟨mem_gw 886 (by decide +kernel) (by decide +kernel), mem_gw 887 (by decide +kernel) (by decide +kernel)⟩
def MX10_holds : MT := (yX10_holds, cX10_holds, 1, some .int, 2, 44)
theorem oX10_holds : gt_MO MX10_holds 0 := ⟨mem_gw 866 (by decide +kernel) (by decide +kernel), ini_RX10, (by decide +kernel)⟩
theorem iX10_holds : gt_IO MX10_holds := ⟨mem_gw 864 (by decide +kernel) (by decide +kernel), mem_gw 865 (by decide +kernel) (by decide +kernel)⟩
def MX10_image : MT := (yX10_image, cX10_image, 1, some .int, 3, 69)
theorem oX10_image : gt_MO MX10_image 0 := ⟨mem_gw 893 (by decide +kernel) (by decide +kernel), ini_RX10, (by decide +kernel)⟩
theorem iX10_image : gt_IO MX10_image := ⟨mem_gw 891 (by decide +kernel) (by decide +kernel), mem_gw 892 (by decide +kernel) (by decide +kernel)⟩
def MX10_init : MT := (yX10_init, cX10_init, 1, none, 4, 81)
theorem oX10_init : gt_MO MX10_init 0 := ⟨mem_gw 91 (by decide +kernel) (by decide +kernel), ini_RX10, (by decide +kernel)⟩
theorem nX10_init : Cond.instanceMethod (gt_y MX10_init) ∈ gw := mem_gw 90 (by decide +kernel) (by decide +kernel)
def MX10_isCell : MT := (yX10_isCell, cX10_isCell, 1, some .boolean, 0, 0)
theorem oX10_isCell : gt_MO MX10_isCell 1 := ⟨mem_gw 441 (by decide +kernel) (by decide +kernel), ini_RX10, (by decide +kernel)⟩
theorem sX10_isCell : Cond.static (gt_y MX10_isCell) ∈ gw := mem_gw 440 (by decide +kernel) (by decide +kernel)
def MX10_isCellNumber : MT := (yX10_isCellNumber, cX10_isCellNumber, 1, some .boolean, 0, 0)
theorem oX10_isCellNumber : gt_MO MX10_isCellNumber 1 := ⟨mem_gw 444 (by decide +kernel) (by decide +kernel), ini_RX10, (by decide +kernel)⟩
theorem sX10_isCellNumber : Cond.static (gt_y MX10_isCellNumber) ∈ gw := mem_gw 443 (by decide +kernel) (by decide +kernel)
def MX10_isList : MT := (yX10_isList, cX10_isList, 1, some .boolean, 0, 0)
theorem oX10_isList : gt_MO MX10_isList 1 := ⟨mem_gw 673 (by decide +kernel) (by decide +kernel), ini_RX10, (by decide +kernel)⟩
theorem sX10_isList : Cond.static (gt_y MX10_isList) ∈ gw := mem_gw 672 (by decide +kernel) (by decide +kernel)
def MX10_isMonitor : MT := (yX10_isMonitor, cX10_isMonitor, 1, some .boolean, 0, 0)
theorem oX10_isMonitor : gt_MO MX10_isMonitor 1 := ⟨mem_gw 427 (by decide +kernel) (by decide +kernel), ini_RX10, (by decide +kernel)⟩
theorem sX10_isMonitor : Cond.static (gt_y MX10_isMonitor) ∈ gw := mem_gw 426 (by decide +kernel) (by decide +kernel)
def MX10_isTask : MT := (yX10_isTask, cX10_isTask, 2, some .boolean, 0, 0)
theorem oX10_isTask : gt_MO MX10_isTask 1 := ⟨mem_gw 468 (by decide +kernel) (by decide +kernel), ini_RX10, (by decide +kernel)⟩
theorem iX10_isTask : gt_IO MX10_isTask := ⟨mem_gw 467 (by decide +kernel) (by decide +kernel), mem_gw 0 (by decide +kernel) (by decide +kernel)⟩
def MX10_lay : MT := (yX10_lay, cX10_lay, 9, some .int, 5, 117)
theorem oX10_lay : gt_MO MX10_lay 3 := ⟨mem_gw 833 (by decide +kernel) (by decide +kernel), ini_RX10, (by decide +kernel)⟩
theorem iX10_lay : gt_IO MX10_lay := ⟨mem_gw 831 (by decide +kernel) (by decide +kernel), mem_gw 832 (by decide +kernel) (by decide +kernel)⟩
def MX10_list : MT := (yX10_list, cX10_list, 3, some .int, 2, 45)
theorem oX10_list : gt_MO MX10_list 2 := ⟨mem_gw 871 (by decide +kernel) (by decide +kernel), ini_RX10, (by decide +kernel)⟩
theorem iX10_list : gt_IO MX10_list := ⟨mem_gw 869 (by decide +kernel) (by decide +kernel), mem_gw 870 (by decide +kernel) (by decide +kernel)⟩
def MX10_missing : MT := (yX10_missing, cX10_missing, 4, some .int, 1, 21)
theorem oX10_missing : gt_MO MX10_missing 2 := ⟨mem_gw 424 (by decide +kernel) (by decide +kernel), ini_RX10, (by decide +kernel)⟩
theorem iX10_missing : gt_IO MX10_missing := ⟨mem_gw 422 (by decide +kernel) (by decide +kernel), mem_gw 423 (by decide +kernel) (by decide +kernel)⟩
def MX10_of : MT := (yX10_of, cX10_of, 3, some .int, 2, 44)
theorem oX10_of : gt_MO MX10_of 2 := ⟨mem_gw 677 (by decide +kernel) (by decide +kernel), ini_RX10, (by decide +kernel)⟩
theorem iX10_of : gt_IO MX10_of := ⟨mem_gw 675 (by decide +kernel) (by decide +kernel), mem_gw 676 (by decide +kernel) (by decide +kernel)⟩
def MX10_outcome : MT := (yX10_outcome, cX10_outcome, 3, some .int, 5, 117)
theorem oX10_outcome : gt_MO MX10_outcome 2 := ⟨mem_gw 837 (by decide +kernel) (by decide +kernel), ini_RX10, (by decide +kernel)⟩
theorem iX10_outcome : gt_IO MX10_outcome := ⟨mem_gw 835 (by decide +kernel) (by decide +kernel), mem_gw 836 (by decide +kernel) (by decide +kernel)⟩
def MX10_program : MT := (yX10_program, cX10_program, 3, some .int, 9, 197)
theorem oX10_program : gt_MO MX10_program 1 := ⟨mem_gw 464 (by decide +kernel) (by decide +kernel), ini_RX10, (by decide +kernel)⟩
theorem iX10_program : gt_IO MX10_program := ⟨mem_gw 462 (by decide +kernel) (by decide +kernel), mem_gw 463 (by decide +kernel) (by decide +kernel)⟩
def MX10_put : MT := (yX10_put, cX10_put, 4, some .int, 1, 20)
theorem oX10_put : gt_MO MX10_put 2 := ⟨mem_gw 438 (by decide +kernel) (by decide +kernel), ini_RX10, (by decide +kernel)⟩
theorem iX10_put : gt_IO MX10_put := ⟨mem_gw 436 (by decide +kernel) (by decide +kernel), mem_gw 437 (by decide +kernel) (by decide +kernel)⟩
def MX10_restart : MT := (yX10_restart, cX10_restart, 1, some .int, 3, 63)
theorem oX10_restart : gt_MO MX10_restart 0 := ⟨mem_gw 412 (by decide +kernel) (by decide +kernel), ini_RX10, (by decide +kernel)⟩
theorem iX10_restart : gt_IO MX10_restart := ⟨mem_gw 410 (by decide +kernel) (by decide +kernel), mem_gw 411 (by decide +kernel) (by decide +kernel)⟩
def MX10_round : MT := (yX10_round, cX10_round, 1, some .int, 5, 117)
theorem oX10_round : gt_MO MX10_round 0 := ⟨mem_gw 850 (by decide +kernel) (by decide +kernel), ini_RX10, (by decide +kernel)⟩
theorem iX10_round : gt_IO MX10_round := ⟨mem_gw 848 (by decide +kernel) (by decide +kernel), mem_gw 849 (by decide +kernel) (by decide +kernel)⟩
def MX10_run : MT := (yX10_run, cX10_run, 5, some .int, 5, 115)
theorem oX10_run : gt_MO MX10_run 2 := ⟨mem_gw 658 (by decide +kernel) (by decide +kernel), ini_RX10, (by decide +kernel)⟩
theorem iX10_run : gt_IO MX10_run := ⟨mem_gw 656 (by decide +kernel) (by decide +kernel), mem_gw 657 (by decide +kernel) (by decide +kernel)⟩
def MX10_schedule : MT := (yX10_schedule, cX10_schedule, 4, some .int, 5, 117)
theorem oX10_schedule : gt_MO MX10_schedule 2 := ⟨mem_gw 825 (by decide +kernel) (by decide +kernel), ini_RX10, (by decide +kernel)⟩
theorem iX10_schedule : gt_IO MX10_schedule := ⟨mem_gw 823 (by decide +kernel) (by decide +kernel), mem_gw 824 (by decide +kernel) (by decide +kernel)⟩
def MX10_set : MT := (yX10_set, cX10_set, 5, some .int, 2, 41)
theorem oX10_set : gt_MO MX10_set 3 := ⟨mem_gw 880 (by decide +kernel) (by decide +kernel), ini_RX10, (by decide +kernel)⟩
theorem iX10_set : gt_IO MX10_set := ⟨mem_gw 878 (by decide +kernel) (by decide +kernel), mem_gw 879 (by decide +kernel) (by decide +kernel)⟩
def MX10_stands : MT := (yX10_stands, cX10_stands, 5, some .int, 1, 21)
theorem oX10_stands : gt_MO MX10_stands 3 := ⟨mem_gw 699 (by decide +kernel) (by decide +kernel), ini_RX10, (by decide +kernel)⟩
theorem iX10_stands : gt_IO MX10_stands := ⟨mem_gw 697 (by decide +kernel) (by decide +kernel), mem_gw 698 (by decide +kernel) (by decide +kernel)⟩
def MX10_statement : MT := (yX10_statement, cX10_statement, 4, some .int, 1, 22)
theorem oX10_statement : gt_MO MX10_statement 3 := ⟨mem_gw 596 (by decide +kernel) (by decide +kernel), ini_RX10, (by decide +kernel)⟩
theorem iX10_statement : gt_IO MX10_statement := ⟨mem_gw 594 (by decide +kernel) (by decide +kernel), mem_gw 595 (by decide +kernel) (by decide +kernel)⟩
def MX10_step : MT := (yX10_step, cX10_step, 2, some .int, 5, 115)
theorem oX10_step : gt_MO MX10_step 1 := ⟨mem_gw 604 (by decide +kernel) (by decide +kernel), ini_RX10, (by decide +kernel)⟩
theorem iX10_step : gt_IO MX10_step := ⟨mem_gw 602 (by decide +kernel) (by decide +kernel), mem_gw 603 (by decide +kernel) (by decide +kernel)⟩
def MX10_takeTruly : MT := (yX10_takeTruly, cX10_takeTruly, 3, none, 4, 93)
theorem oX10_takeTruly : gt_MO MX10_takeTruly 1 := ⟨mem_gw 608 (by decide +kernel) (by decide +kernel), ini_RX10, (by decide +kernel)⟩
theorem iX10_takeTruly : gt_IO MX10_takeTruly := ⟨mem_gw 607 (by decide +kernel) (by decide +kernel), mem_gw 11 (by decide +kernel) (by decide +kernel)⟩
def MX10_task : MT := (yX10_task, cX10_task, 1, some .int, 1, 20)
theorem oX10_task : gt_MO MX10_task 0 := ⟨mem_gw 400 (by decide +kernel) (by decide +kernel), ini_RX10, (by decide +kernel)⟩
theorem iX10_task : gt_IO MX10_task := ⟨mem_gw 398 (by decide +kernel) (by decide +kernel), mem_gw 399 (by decide +kernel) (by decide +kernel)⟩
def MX10_told : MT := (yX10_told, cX10_told, 2, some .int, 2, 43)
theorem oX10_told : gt_MO MX10_told 1 := ⟨mem_gw 712 (by decide +kernel) (by decide +kernel), ini_RX10, (by decide +kernel)⟩
theorem iX10_told : gt_IO MX10_told := ⟨mem_gw 710 (by decide +kernel) (by decide +kernel), mem_gw 711 (by decide +kernel) (by decide +kernel)⟩
def MX10_under : MT := (yX10_under, cX10_under, 2, some .int, 5, 117)
theorem oX10_under : gt_MO MX10_under 1 := ⟨mem_gw 846 (by decide +kernel) (by decide +kernel), ini_RX10, (by decide +kernel)⟩
theorem iX10_under : gt_IO MX10_under := ⟨mem_gw 844 (by decide +kernel) (by decide +kernel), mem_gw 845 (by decide +kernel) (by decide +kernel)⟩
def MX11_are : MT := (yX11_are, cX11_are, 2, some .int, 1, 25)
theorem oX11_are : gt_MO MX11_are 1 := ⟨mem_gw 1180 (by decide +kernel) (by decide +kernel), ini_RX11, (by decide +kernel)⟩
theorem iX11_are : gt_IO MX11_are := ⟨mem_gw 1178 (by decide +kernel) (by decide +kernel), mem_gw 1179 (by decide +kernel) (by decide +kernel)⟩
def MX11_areCellsLike : MT := (yX11_areCellsLike, cX11_areCellsLike, 5, some .boolean, 0, 0)
theorem oX11_areCellsLike : gt_MO MX11_areCellsLike 2 := ⟨mem_gw 1250 (by decide +kernel) (by decide +kernel), ini_RX11, (by decide +kernel)⟩
theorem iX11_areCellsLike : gt_IO MX11_areCellsLike := ⟨mem_gw 1249 (by decide +kernel) (by decide +kernel), mem_gw 62 (by decide +kernel) (by decide +kernel)⟩
def MX11_areIn : MT := (yX11_areIn, cX11_areIn, 6, some .int, 0, 0)
theorem oX11_areIn : gt_MO MX11_areIn 3 := ⟨mem_gw 1185 (by decide +kernel) (by decide +kernel), ini_RX11, (by decide +kernel)⟩
theorem iX11_areIn : gt_IO MX11_areIn := ⟨mem_gw 1184 (by decide +kernel) (by decide +kernel), mem_gw 49 (by decide +kernel) (by decide +kernel)⟩
def MX11_areSo : MT := (yX11_areSo, cX11_areSo, 8, some .boolean, 0, 0)
theorem oX11_areSo : gt_MO MX11_areSo 2 := ⟨mem_gw 1238 (by decide +kernel) (by decide +kernel), ini_RX11, (by decide +kernel)⟩
theorem iX11_areSo : gt_IO MX11_areSo := ⟨mem_gw 1237 (by decide +kernel) (by decide +kernel), mem_gw 59 (by decide +kernel) (by decide +kernel)⟩
def MX11_back : MT := (yX11_back, cX11_back, 2, some .int, 1, 25)
theorem oX11_back : gt_MO MX11_back 0 := ⟨mem_gw 1318 (by decide +kernel) (by decide +kernel), ini_RX11, (by decide +kernel)⟩
theorem iX11_back : gt_IO MX11_back := ⟨mem_gw 1316 (by decide +kernel) (by decide +kernel), mem_gw 1317 (by decide +kernel) (by decide +kernel)⟩
def MX11_cause : MT := (yX11_cause, cX11_cause, 3, some .int, 1, 25)
theorem oX11_cause : gt_MO MX11_cause 2 := ⟨mem_gw 1201 (by decide +kernel) (by decide +kernel), ini_RX11, (by decide +kernel)⟩
theorem iX11_cause : gt_IO MX11_cause := ⟨mem_gw 1199 (by decide +kernel) (by decide +kernel), mem_gw 1200 (by decide +kernel) (by decide +kernel)⟩
def MX11_cell : MT := (yX11_cell, cX11_cell, 2, some .int, 2, 45)
theorem oX11_cell : gt_MO MX11_cell 1 := ⟨mem_gw 1026 (by decide +kernel) (by decide +kernel), ini_RX11, (by decide +kernel)⟩
theorem iX11_cell : gt_IO MX11_cell := ⟨mem_gw 1024 (by decide +kernel) (by decide +kernel), mem_gw 1025 (by decide +kernel) (by decide +kernel)⟩
def MX11_chosen : MT := (yX11_chosen, cX11_chosen, 7, some .int, 3, 67)
theorem oX11_chosen : gt_MO MX11_chosen 1 := ⟨mem_gw 1149 (by decide +kernel) (by decide +kernel), ini_RX11, (by decide +kernel)⟩
theorem iX11_chosen : gt_IO MX11_chosen := ⟨mem_gw 1148 (by decide +kernel) (by decide +kernel), mem_gw 46 (by decide +kernel) (by decide +kernel)⟩
def MX11_clear : MT := (yX11_clear, cX11_clear, 2, some .int, 0, 0)
theorem oX11_clear : gt_MO MX11_clear 0 := ⟨mem_gw 1035 (by decide +kernel) (by decide +kernel), ini_RX11, (by decide +kernel)⟩
theorem iX11_clear : gt_IO MX11_clear := ⟨mem_gw 1033 (by decide +kernel) (by decide +kernel), mem_gw 1034 (by decide +kernel) (by decide +kernel)⟩
def MX11_comes : MT := (yX11_comes, cX11_comes, 5, none, 0, 0)
theorem oX11_comes : gt_MO MX11_comes 4 := ⟨mem_gw 1136 (by decide +kernel) (by decide +kernel), ini_RX11, (by decide +kernel)⟩
theorem iX11_comes : gt_IO MX11_comes := ⟨mem_gw 1135 (by decide +kernel) (by decide +kernel), mem_gw 44 (by decide +kernel) (by decide +kernel)⟩
def MX11_condition : MT := (yX11_condition, cX11_condition, 4, some .int, 2, 45)
theorem oX11_condition : gt_MO MX11_condition 3 := ⟨mem_gw 1293 (by decide +kernel) (by decide +kernel), ini_RX11, (by decide +kernel)⟩
theorem iX11_condition : gt_IO MX11_condition := ⟨mem_gw 1291 (by decide +kernel) (by decide +kernel), mem_gw 1292 (by decide +kernel) (by decide +kernel)⟩
def MX11_copies : MT := (yX11_copies, cX11_copies, 6, none, 0, 0)
theorem oX11_copies : gt_MO MX11_copies 5 := ⟨mem_gw 1084 (by decide +kernel) (by decide +kernel), ini_RX11, (by decide +kernel)⟩
theorem sX11_copies : Cond.static (gt_y MX11_copies) ∈ gw := mem_gw 1083 (by decide +kernel) (by decide +kernel)
def MX11_deepest : MT := (yX11_deepest, cX11_deepest, 3, some .int, 0, 0)
theorem oX11_deepest : gt_MO MX11_deepest 0 := ⟨mem_gw 1226 (by decide +kernel) (by decide +kernel), ini_RX11, (by decide +kernel)⟩
theorem iX11_deepest : gt_IO MX11_deepest := ⟨mem_gw 1225 (by decide +kernel) (by decide +kernel), mem_gw 56 (by decide +kernel) (by decide +kernel)⟩
def MX11_ends : MT := (yX11_ends, cX11_ends, 4, none, 2, 47)
theorem oX11_ends : gt_MO MX11_ends 2 := ⟨mem_gw 1112 (by decide +kernel) (by decide +kernel), ini_RX11, (by decide +kernel)⟩
theorem iX11_ends : gt_IO MX11_ends := ⟨mem_gw 1111 (by decide +kernel) (by decide +kernel), mem_gw 38 (by decide +kernel) (by decide +kernel)⟩
def MX11_enters : MT := (yX11_enters, cX11_enters, 3, none, 1, 24)
theorem oX11_enters : gt_MO MX11_enters 2 := ⟨mem_gw 1132 (by decide +kernel) (by decide +kernel), ini_RX11, (by decide +kernel)⟩
theorem iX11_enters : gt_IO MX11_enters := ⟨mem_gw 1131 (by decide +kernel) (by decide +kernel), mem_gw 43 (by decide +kernel) (by decide +kernel)⟩
def MX11_feed : MT := (yX11_feed, cX11_feed, 2, some .int, 1, 25)
theorem oX11_feed : gt_MO MX11_feed 1 := ⟨mem_gw 1030 (by decide +kernel) (by decide +kernel), ini_RX11, (by decide +kernel)⟩
theorem iX11_feed : gt_IO MX11_feed := ⟨mem_gw 1028 (by decide +kernel) (by decide +kernel), mem_gw 1029 (by decide +kernel) (by decide +kernel)⟩
def MX11_field : MT := (yX11_field, cX11_field, 4, some .int, 0, 0)
theorem oX11_field : gt_MO MX11_field 3 := ⟨mem_gw 1092 (by decide +kernel) (by decide +kernel), ini_RX11, (by decide +kernel)⟩
theorem iX11_field : gt_IO MX11_field := ⟨mem_gw 1091 (by decide +kernel) (by decide +kernel), mem_gw 34 (by decide +kernel) (by decide +kernel)⟩
def MX11_finds : MT := (yX11_finds, cX11_finds, 5, none, 1, 25)
theorem oX11_finds : gt_MO MX11_finds 2 := ⟨mem_gw 1214 (by decide +kernel) (by decide +kernel), ini_RX11, (by decide +kernel)⟩
theorem iX11_finds : gt_IO MX11_finds := ⟨mem_gw 1213 (by decide +kernel) (by decide +kernel), mem_gw 53 (by decide +kernel) (by decide +kernel)⟩
def MX11_findsAll : MT := (yX11_findsAll, cX11_findsAll, 3, none, 4, 100)
theorem oX11_findsAll : gt_MO MX11_findsAll 0 := ⟨mem_gw 1210 (by decide +kernel) (by decide +kernel), ini_RX11, (by decide +kernel)⟩
theorem iX11_findsAll : gt_IO MX11_findsAll := ⟨mem_gw 1209 (by decide +kernel) (by decide +kernel), mem_gw 52 (by decide +kernel) (by decide +kernel)⟩
def MX11_firstFailing : MT := (yX11_firstFailing, cX11_firstFailing, 2, some .int, 1, 27)
theorem oX11_firstFailing : gt_MO MX11_firstFailing 0 := ⟨mem_gw 1234 (by decide +kernel) (by decide +kernel), ini_RX11, (by decide +kernel)⟩
theorem iX11_firstFailing : gt_IO MX11_firstFailing := ⟨mem_gw 1233 (by decide +kernel) (by decide +kernel), mem_gw 58 (by decide +kernel) (by decide +kernel)⟩
def MX11_firstSticking : MT := (yX11_firstSticking, cX11_firstSticking, 2, some .int, 2, 47)
theorem oX11_firstSticking : gt_MO MX11_firstSticking 0 := ⟨mem_gw 1230 (by decide +kernel) (by decide +kernel), ini_RX11, (by decide +kernel)⟩
theorem iX11_firstSticking : gt_IO MX11_firstSticking := ⟨mem_gw 1229 (by decide +kernel) (by decide +kernel), mem_gw 57 (by decide +kernel) (by decide +kernel)⟩
def MX11_follow : MT := (yX11_follow, cX11_follow, 5, some .int, 5, 122)
theorem oX11_follow : gt_MO MX11_follow 3 := ⟨mem_gw 1153 (by decide +kernel) (by decide +kernel), ini_RX11, (by decide +kernel)⟩
theorem iX11_follow : gt_IO MX11_follow := ⟨mem_gw 1151 (by decide +kernel) (by decide +kernel), mem_gw 1152 (by decide +kernel) (by decide +kernel)⟩
def MX11_found : MT := (yX11_found, cX11_found, 3, some .int, 5, 122)
theorem oX11_found : gt_MO MX11_found 1 := ⟨mem_gw 1205 (by decide +kernel) (by decide +kernel), ini_RX11, (by decide +kernel)⟩
theorem iX11_found : gt_IO MX11_found := ⟨mem_gw 1203 (by decide +kernel) (by decide +kernel), mem_gw 1204 (by decide +kernel) (by decide +kernel)⟩
def MX11_frees : MT := (yX11_frees, cX11_frees, 3, none, 1, 25)
theorem oX11_frees : gt_MO MX11_frees 1 := ⟨mem_gw 1120 (by decide +kernel) (by decide +kernel), ini_RX11, (by decide +kernel)⟩
theorem iX11_frees : gt_IO MX11_frees := ⟨mem_gw 1119 (by decide +kernel) (by decide +kernel), mem_gw 40 (by decide +kernel) (by decide +kernel)⟩
def MX11_gate : MT := (yX11_gate, cX11_gate, 3, some .int, 2, 45)
theorem oX11_gate : gt_MO MX11_gate 2 := ⟨mem_gw 1172 (by decide +kernel) (by decide +kernel), ini_RX11, (by decide +kernel)⟩
theorem iX11_gate : gt_IO MX11_gate := ⟨mem_gw 1170 (by decide +kernel) (by decide +kernel), mem_gw 1171 (by decide +kernel) (by decide +kernel)⟩
def MX11_get : MT := (yX11_get, cX11_get, 3, some .int, 2, 45)
theorem oX11_get : gt_MO MX11_get 2 := ⟨mem_gw 1309 (by decide +kernel) (by decide +kernel), ini_RX11, (by decide +kernel)⟩
theorem iX11_get : gt_IO MX11_get := ⟨mem_gw 1307 (by decide +kernel) (by decide +kernel), mem_gw 1308 (by decide +kernel) (by decide +kernel)⟩
def MX11_goal : MT := (yX11_goal, cX11_goal, 2, some .int, 5, 122)
theorem oX11_goal : gt_MO MX11_goal 1 := ⟨mem_gw 1262 (by decide +kernel) (by decide +kernel), ini_RX11, (by decide +kernel)⟩
theorem iX11_goal : gt_IO MX11_goal := ⟨mem_gw 1261 (by decide +kernel) (by decide +kernel), mem_gw 64 (by decide +kernel) (by decide +kernel)⟩
def MX11_has : MT := (yX11_has, cX11_has, 2, some .boolean, 0, 0)
theorem oX11_has : gt_MO MX11_has 2 := ⟨mem_gw 1285 (by decide +kernel) (by decide +kernel), ini_RX11, (by decide +kernel)⟩
theorem sX11_has : Cond.static (gt_y MX11_has) ∈ gw := mem_gw 1284 (by decide +kernel) (by decide +kernel)
def MX11_here : MT := (yX11_here, cX11_here, 1, some .int, 0, 0)
theorem oX11_here : gt_MO MX11_here 0 := ⟨mem_gw 1055 (by decide +kernel) (by decide +kernel), ini_RX11, (by decide +kernel)⟩
theorem iX11_here : gt_IO MX11_here := ⟨mem_gw 1054 (by decide +kernel) (by decide +kernel), mem_gw 28 (by decide +kernel) (by decide +kernel)⟩
def MX11_holds : MT := (yX11_holds, cX11_holds, 1, some .int, 1, 27)
theorem oX11_holds : gt_MO MX11_holds 0 := ⟨mem_gw 1297 (by decide +kernel) (by decide +kernel), ini_RX11, (by decide +kernel)⟩
theorem iX11_holds : gt_IO MX11_holds := ⟨mem_gw 1295 (by decide +kernel) (by decide +kernel), mem_gw 1296 (by decide +kernel) (by decide +kernel)⟩
def MX11_image : MT := (yX11_image, cX11_image, 1, some .int, 1, 25)
theorem oX11_image : gt_MO MX11_image 0 := ⟨mem_gw 1314 (by decide +kernel) (by decide +kernel), ini_RX11, (by decide +kernel)⟩
theorem iX11_image : gt_IO MX11_image := ⟨mem_gw 1312 (by decide +kernel) (by decide +kernel), mem_gw 1313 (by decide +kernel) (by decide +kernel)⟩
def MX11_in : MT := (yX11_in, cX11_in, 6, some .boolean, 0, 0)
theorem oX11_in : gt_MO MX11_in 3 := ⟨mem_gw 1012 (by decide +kernel) (by decide +kernel), ini_RX11, (by decide +kernel)⟩
theorem sX11_in : Cond.static (gt_y MX11_in) ∈ gw := mem_gw 1011 (by decide +kernel) (by decide +kernel)
def MX11_init : MT := (yX11_init, cX11_init, 1, none, 1, 20)
theorem oX11_init : gt_MO MX11_init 0 := ⟨mem_gw 904 (by decide +kernel) (by decide +kernel), ini_RX11, (by decide +kernel)⟩
theorem nX11_init : Cond.instanceMethod (gt_y MX11_init) ∈ gw := mem_gw 903 (by decide +kernel) (by decide +kernel)
def MX11_isCell : MT := (yX11_isCell, cX11_isCell, 1, some .boolean, 1, 25)
theorem oX11_isCell : gt_MO MX11_isCell 1 := ⟨mem_gw 1019 (by decide +kernel) (by decide +kernel), ini_RX11, (by decide +kernel)⟩
theorem sX11_isCell : Cond.static (gt_y MX11_isCell) ∈ gw := mem_gw 1018 (by decide +kernel) (by decide +kernel)
def MX11_isLike : MT := (yX11_isLike, cX11_isLike, 4, some .boolean, 0, 0)
theorem oX11_isLike : gt_MO MX11_isLike 1 := ⟨mem_gw 1218 (by decide +kernel) (by decide +kernel), ini_RX11, (by decide +kernel)⟩
theorem iX11_isLike : gt_IO MX11_isLike := ⟨mem_gw 1217 (by decide +kernel) (by decide +kernel), mem_gw 54 (by decide +kernel) (by decide +kernel)⟩
def MX11_isList : MT := (yX11_isList, cX11_isList, 1, some .boolean, 1, 25)
theorem oX11_isList : gt_MO MX11_isList 1 := ⟨mem_gw 1156 (by decide +kernel) (by decide +kernel), ini_RX11, (by decide +kernel)⟩
theorem sX11_isList : Cond.static (gt_y MX11_isList) ∈ gw := mem_gw 1155 (by decide +kernel) (by decide +kernel)
def MX11_isMonitor : MT := (yX11_isMonitor, cX11_isMonitor, 1, some .boolean, 1, 25)
theorem oX11_isMonitor : gt_MO MX11_isMonitor 1 := ⟨mem_gw 1008 (by decide +kernel) (by decide +kernel), ini_RX11, (by decide +kernel)⟩
theorem sX11_isMonitor : Cond.static (gt_y MX11_isMonitor) ∈ gw := mem_gw 1007 (by decide +kernel) (by decide +kernel)
def MX11_isNested : MT := (yX11_isNested, cX11_isNested, 4, some .boolean, 0, 0)
theorem oX11_isNested : gt_MO MX11_isNested 0 := ⟨mem_gw 1254 (by decide +kernel) (by decide +kernel), ini_RX11, (by decide +kernel)⟩
theorem iX11_isNested : gt_IO MX11_isNested := ⟨mem_gw 1253 (by decide +kernel) (by decide +kernel), mem_gw 63 (by decide +kernel) (by decide +kernel)⟩
def MX11_isOutcome : MT := (yX11_isOutcome, cX11_isOutcome, 4, some .boolean, 2, 47)
theorem oX11_isOutcome : gt_MO MX11_isOutcome 1 := ⟨mem_gw 1246 (by decide +kernel) (by decide +kernel), ini_RX11, (by decide +kernel)⟩
theorem iX11_isOutcome : gt_IO MX11_isOutcome := ⟨mem_gw 1245 (by decide +kernel) (by decide +kernel), mem_gw 61 (by decide +kernel) (by decide +kernel)⟩
def MX11_isOver : MT := (yX11_isOver, cX11_isOver, 3, some .boolean, 1, 25)
theorem oX11_isOver : gt_MO MX11_isOver 2 := ⟨mem_gw 1197 (by decide +kernel) (by decide +kernel), ini_RX11, (by decide +kernel)⟩
theorem iX11_isOver : gt_IO MX11_isOver := ⟨mem_gw 1196 (by decide +kernel) (by decide +kernel), mem_gw 51 (by decide +kernel) (by decide +kernel)⟩
def MX11_isOwner : MT := (yX11_isOwner, cX11_isOwner, 3, some .boolean, 0, 0)
theorem oX11_isOwner : gt_MO MX11_isOwner 2 := ⟨mem_gw 1116 (by decide +kernel) (by decide +kernel), ini_RX11, (by decide +kernel)⟩
theorem iX11_isOwner : gt_IO MX11_isOwner := ⟨mem_gw 1115 (by decide +kernel) (by decide +kernel), mem_gw 39 (by decide +kernel) (by decide +kernel)⟩
def MX11_isReady : MT := (yX11_isReady, cX11_isReady, 2, some .boolean, 2, 46)
theorem oX11_isReady : gt_MO MX11_isReady 1 := ⟨mem_gw 1100 (by decide +kernel) (by decide +kernel), ini_RX11, (by decide +kernel)⟩
theorem iX11_isReady : gt_IO MX11_isReady := ⟨mem_gw 1099 (by decide +kernel) (by decide +kernel), mem_gw 35 (by decide +kernel) (by decide +kernel)⟩
def MX11_isTask : MT := (yX11_isTask, cX11_isTask, 2, some .boolean, 1, 25)
theorem oX11_isTask : gt_MO MX11_isTask 1 := ⟨mem_gw 1043 (by decide +kernel) (by decide +kernel), ini_RX11, (by decide +kernel)⟩
theorem iX11_isTask : gt_IO MX11_isTask := ⟨mem_gw 1042 (by decide +kernel) (by decide +kernel), mem_gw 25 (by decide +kernel) (by decide +kernel)⟩
def MX11_isWord : MT := (yX11_isWord, cX11_isWord, 5, some .boolean, 0, 0)
theorem oX11_isWord : gt_MO MX11_isWord 2 := ⟨mem_gw 1061 (by decide +kernel) (by decide +kernel), ini_RX11, (by decide +kernel)⟩
theorem iX11_isWord : gt_IO MX11_isWord := ⟨mem_gw 1060 (by decide +kernel) (by decide +kernel), mem_gw 29 (by decide +kernel) (by decide +kernel)⟩
def MX11_lay : MT := (yX11_lay, cX11_lay, 6, some .int, 6, 143)
theorem oX11_lay : gt_MO MX11_lay 3 := ⟨mem_gw 1270 (by decide +kernel) (by decide +kernel), ini_RX11, (by decide +kernel)⟩
theorem iX11_lay : gt_IO MX11_lay := ⟨mem_gw 1268 (by decide +kernel) (by decide +kernel), mem_gw 1269 (by decide +kernel) (by decide +kernel)⟩
def MX11_leaves : MT := (yX11_leaves, cX11_leaves, 6, some .int, 0, 0)
theorem oX11_leaves : gt_MO MX11_leaves 3 := ⟨mem_gw 1124 (by decide +kernel) (by decide +kernel), ini_RX11, (by decide +kernel)⟩
theorem iX11_leaves : gt_IO MX11_leaves := ⟨mem_gw 1123 (by decide +kernel) (by decide +kernel), mem_gw 41 (by decide +kernel) (by decide +kernel)⟩
def MX11_list : MT := (yX11_list, cX11_list, 4, some .int, 2, 45)
theorem oX11_list : gt_MO MX11_list 2 := ⟨mem_gw 1301 (by decide +kernel) (by decide +kernel), ini_RX11, (by decide +kernel)⟩
theorem iX11_list : gt_IO MX11_list := ⟨mem_gw 1299 (by decide +kernel) (by decide +kernel), mem_gw 1300 (by decide +kernel) (by decide +kernel)⟩
def MX11_manyOf : MT := (yX11_manyOf, cX11_manyOf, 4, some .int, 2, 47)
theorem oX11_manyOf : gt_MO MX11_manyOf 1 := ⟨mem_gw 1222 (by decide +kernel) (by decide +kernel), ini_RX11, (by decide +kernel)⟩
theorem iX11_manyOf : gt_IO MX11_manyOf := ⟨mem_gw 1221 (by decide +kernel) (by decide +kernel), mem_gw 55 (by decide +kernel) (by decide +kernel)⟩
def MX11_missing : MT := (yX11_missing, cX11_missing, 4, some .int, 2, 45)
theorem oX11_missing : gt_MO MX11_missing 2 := ⟨mem_gw 1005 (by decide +kernel) (by decide +kernel), ini_RX11, (by decide +kernel)⟩
theorem iX11_missing : gt_IO MX11_missing := ⟨mem_gw 1003 (by decide +kernel) (by decide +kernel), mem_gw 1004 (by decide +kernel) (by decide +kernel)⟩
def MX11_monitors : MT := (yX11_monitors, cX11_monitors, 4, none, 2, 50)
theorem oX11_monitors : gt_MO MX11_monitors 3 := ⟨mem_gw 1128 (by decide +kernel) (by decide +kernel), ini_RX11, (by decide +kernel)⟩
theorem iX11_monitors : gt_IO MX11_monitors := ⟨mem_gw 1127 (by decide +kernel) (by decide +kernel), mem_gw 42 (by decide +kernel) (by decide +kernel)⟩
def MX11_must : MT := (yX11_must, cX11_must, 3, none, 0, 0)
theorem oX11_must : gt_MO MX11_must 2 := ⟨mem_gw 1065 (by decide +kernel) (by decide +kernel), ini_RX11, (by decide +kernel)⟩
theorem iX11_must : gt_IO MX11_must := ⟨mem_gw 1064 (by decide +kernel) (by decide +kernel), mem_gw 30 (by decide +kernel) (by decide +kernel)⟩
def MX11_notifies : MT := (yX11_notifies, cX11_notifies, 6, none, 1, 25)
theorem oX11_notifies : gt_MO MX11_notifies 2 := ⟨mem_gw 1140 (by decide +kernel) (by decide +kernel), ini_RX11, (by decide +kernel)⟩
theorem iX11_notifies : gt_IO MX11_notifies := ⟨mem_gw 1139 (by decide +kernel) (by decide +kernel), mem_gw 45 (by decide +kernel) (by decide +kernel)⟩
def MX11_number : MT := (yX11_number, cX11_number, 8, some .int, 2, 43)
theorem oX11_number : gt_MO MX11_number 3 := ⟨mem_gw 1069 (by decide +kernel) (by decide +kernel), ini_RX11, (by decide +kernel)⟩
theorem iX11_number : gt_IO MX11_number := ⟨mem_gw 1068 (by decide +kernel) (by decide +kernel), mem_gw 31 (by decide +kernel) (by decide +kernel)⟩
def MX11_of : MT := (yX11_of, cX11_of, 3, some .int, 2, 46)
theorem oX11_of : gt_MO MX11_of 2 := ⟨mem_gw 1160 (by decide +kernel) (by decide +kernel), ini_RX11, (by decide +kernel)⟩
theorem iX11_of : gt_IO MX11_of := ⟨mem_gw 1158 (by decide +kernel) (by decide +kernel), mem_gw 1159 (by decide +kernel) (by decide +kernel)⟩
def MX11_onWay : MT := (yX11_onWay, cX11_onWay, 4, some .int, 0, 0)
theorem oX11_onWay : gt_MO MX11_onWay 2 := ⟨mem_gw 1266 (by decide +kernel) (by decide +kernel), ini_RX11, (by decide +kernel)⟩
theorem iX11_onWay : gt_IO MX11_onWay := ⟨mem_gw 1265 (by decide +kernel) (by decide +kernel), mem_gw 65 (by decide +kernel) (by decide +kernel)⟩
def MX11_outcome : MT := (yX11_outcome, cX11_outcome, 4, some .int, 5, 122)
theorem oX11_outcome : gt_MO MX11_outcome 2 := ⟨mem_gw 1274 (by decide +kernel) (by decide +kernel), ini_RX11, (by decide +kernel)⟩
theorem iX11_outcome : gt_IO MX11_outcome := ⟨mem_gw 1272 (by decide +kernel) (by decide +kernel), mem_gw 1273 (by decide +kernel) (by decide +kernel)⟩
def MX11_outcomeAt : MT := (yX11_outcomeAt, cX11_outcomeAt, 4, some .int, 3, 70)
theorem oX11_outcomeAt : gt_MO MX11_outcomeAt 1 := ⟨mem_gw 1242 (by decide +kernel) (by decide +kernel), ini_RX11, (by decide +kernel)⟩
theorem iX11_outcomeAt : gt_IO MX11_outcomeAt := ⟨mem_gw 1241 (by decide +kernel) (by decide +kernel), mem_gw 60 (by decide +kernel) (by decide +kernel)⟩
def MX11_ownedBy : MT := (yX11_ownedBy, cX11_ownedBy, 6, some .int, 0, 0)
theorem oX11_ownedBy : gt_MO MX11_ownedBy 3 := ⟨mem_gw 1168 (by decide +kernel) (by decide +kernel), ini_RX11, (by decide +kernel)⟩
theorem iX11_ownedBy : gt_IO MX11_ownedBy := ⟨mem_gw 1167 (by decide +kernel) (by decide +kernel), mem_gw 48 (by decide +kernel) (by decide +kernel)⟩
def MX11_program : MT := (yX11_program, cX11_program, 3, some .int, 4, 95)
theorem oX11_program : gt_MO MX11_program 1 := ⟨mem_gw 1039 (by decide +kernel) (by decide +kernel), ini_RX11, (by decide +kernel)⟩
theorem iX11_program : gt_IO MX11_program := ⟨mem_gw 1037 (by decide +kernel) (by decide +kernel), mem_gw 1038 (by decide +kernel) (by decide +kernel)⟩
def MX11_put : MT := (yX11_put, cX11_put, 4, some .int, 2, 45)
theorem oX11_put : gt_MO MX11_put 2 := ⟨mem_gw 1016 (by decide +kernel) (by decide +kernel), ini_RX11, (by decide +kernel)⟩
theorem iX11_put : gt_IO MX11_put := ⟨mem_gw 1014 (by decide +kernel) (by decide +kernel), mem_gw 1015 (by decide +kernel) (by decide +kernel)⟩
def MX11_restart : MT := (yX11_restart, cX11_restart, 2, some .int, 0, 0)
theorem oX11_restart : gt_MO MX11_restart 0 := ⟨mem_gw 1001 (by decide +kernel) (by decide +kernel), ini_RX11, (by decide +kernel)⟩
theorem iX11_restart : gt_IO MX11_restart := ⟨mem_gw 999 (by decide +kernel) (by decide +kernel), mem_gw 1000 (by decide +kernel) (by decide +kernel)⟩
def MX11_round : MT := (yX11_round, cX11_round, 6, some .int, 5, 122)
theorem oX11_round : gt_MO MX11_round 0 := ⟨mem_gw 1289 (by decide +kernel) (by decide +kernel), ini_RX11, (by decide +kernel)⟩
theorem iX11_round : gt_IO MX11_round := ⟨mem_gw 1287 (by decide +kernel) (by decide +kernel), mem_gw 1288 (by decide +kernel) (by decide +kernel)⟩
def MX11_run : MT := (yX11_run, cX11_run, 4, some .int, 5, 122)
theorem oX11_run : gt_MO MX11_run 2 := ⟨mem_gw 1144 (by decide +kernel) (by decide +kernel), ini_RX11, (by decide +kernel)⟩
theorem iX11_run : gt_IO MX11_run := ⟨mem_gw 1142 (by decide +kernel) (by decide +kernel), mem_gw 1143 (by decide +kernel) (by decide +kernel)⟩
def MX11_schedule : MT := (yX11_schedule, cX11_schedule, 4, some .int, 6, 143)
theorem oX11_schedule : gt_MO MX11_schedule 2 := ⟨mem_gw 1258 (by decide +kernel) (by decide +kernel), ini_RX11, (by decide +kernel)⟩
theorem iX11_schedule : gt_IO MX11_schedule := ⟨mem_gw 1256 (by decide +kernel) (by decide +kernel), mem_gw 1257 (by decide +kernel) (by decide +kernel)⟩
def MX11_set : MT := (yX11_set, cX11_set, 4, some .int, 2, 45)
theorem oX11_set : gt_MO MX11_set 3 := ⟨mem_gw 1305 (by decide +kernel) (by decide +kernel), ini_RX11, (by decide +kernel)⟩
theorem iX11_set : gt_IO MX11_set := ⟨mem_gw 1303 (by decide +kernel) (by decide +kernel), mem_gw 1304 (by decide +kernel) (by decide +kernel)⟩
def MX11_stands : MT := (yX11_stands, cX11_stands, 4, some .int, 2, 45)
theorem oX11_stands : gt_MO MX11_stands 3 := ⟨mem_gw 1176 (by decide +kernel) (by decide +kernel), ini_RX11, (by decide +kernel)⟩
theorem iX11_stands : gt_IO MX11_stands := ⟨mem_gw 1174 (by decide +kernel) (by decide +kernel), mem_gw 1175 (by decide +kernel) (by decide +kernel)⟩
def MX11_standsAt : MT := (yX11_standsAt, cX11_standsAt, 6, some .int, 0, 0)
theorem oX11_standsAt : gt_MO MX11_standsAt 1 := ⟨mem_gw 1164 (by decide +kernel) (by decide +kernel), ini_RX11, (by decide +kernel)⟩
theorem iX11_standsAt : gt_IO MX11_standsAt := ⟨mem_gw 1163 (by decide +kernel) (by decide +kernel), mem_gw 47 (by decide +kernel) (by decide +kernel)⟩
def MX11_statement : MT := (yX11_statement, cX11_statement, 4, some .int, 2, 46)
theorem oX11_statement : gt_MO MX11_statement 3 := ⟨mem_gw 1088 (by decide +kernel) (by decide +kernel), ini_RX11, (by decide +kernel)⟩
theorem iX11_statement : gt_IO MX11_statement := ⟨mem_gw 1086 (by decide +kernel) (by decide +kernel), mem_gw 1087 (by decide +kernel) (by decide +kernel)⟩
def MX11_statement1 : MT := (yX11_statement1, cX11_statement1, 6, none, 3, 70)
theorem oX11_statement1 : gt_MO MX11_statement1 1 := ⟨mem_gw 1047 (by decide +kernel) (by decide +kernel), ini_RX11, (by decide +kernel)⟩
theorem iX11_statement1 : gt_IO MX11_statement1 := ⟨mem_gw 1046 (by decide +kernel) (by decide +kernel), mem_gw 26 (by decide +kernel) (by decide +kernel)⟩
def MX11_step : MT := (yX11_step, cX11_step, 2, some .int, 5, 122)
theorem oX11_step : gt_MO MX11_step 1 := ⟨mem_gw 1096 (by decide +kernel) (by decide +kernel), ini_RX11, (by decide +kernel)⟩
theorem iX11_step : gt_IO MX11_step := ⟨mem_gw 1094 (by decide +kernel) (by decide +kernel), mem_gw 1095 (by decide +kernel) (by decide +kernel)⟩
def MX11_steps : MT := (yX11_steps, cX11_steps, 8, none, 3, 73)
theorem oX11_steps : gt_MO MX11_steps 1 := ⟨mem_gw 1108 (by decide +kernel) (by decide +kernel), ini_RX11, (by decide +kernel)⟩
theorem iX11_steps : gt_IO MX11_steps := ⟨mem_gw 1107 (by decide +kernel) (by decide +kernel), mem_gw 37 (by decide +kernel) (by decide +kernel)⟩
def MX11_stepsTruly : MT := (yX11_stepsTruly, cX11_stepsTruly, 3, none, 4, 100)
theorem oX11_stepsTruly : gt_MO MX11_stepsTruly 1 := ⟨mem_gw 1104 (by decide +kernel) (by decide +kernel), ini_RX11, (by decide +kernel)⟩
theorem iX11_stepsTruly : gt_IO MX11_stepsTruly := ⟨mem_gw 1103 (by decide +kernel) (by decide +kernel), mem_gw 36 (by decide +kernel) (by decide +kernel)⟩
def MX11_sticks : MT := (yX11_sticks, cX11_sticks, 3, some .boolean, 1, 25)
theorem oX11_sticks : gt_MO MX11_sticks 2 := ⟨mem_gw 1193 (by decide +kernel) (by decide +kernel), ini_RX11, (by decide +kernel)⟩
theorem iX11_sticks : gt_IO MX11_sticks := ⟨mem_gw 1192 (by decide +kernel) (by decide +kernel), mem_gw 50 (by decide +kernel) (by decide +kernel)⟩
def MX11_takes : MT := (yX11_takes, cX11_takes, 2, none, 1, 22)
theorem oX11_takes : gt_MO MX11_takes 1 := ⟨mem_gw 1073 (by decide +kernel) (by decide +kernel), ini_RX11, (by decide +kernel)⟩
theorem iX11_takes : gt_IO MX11_takes := ⟨mem_gw 1072 (by decide +kernel) (by decide +kernel), mem_gw 32 (by decide +kernel) (by decide +kernel)⟩
def MX11_task : MT := (yX11_task, cX11_task, 1, some .int, 0, 0)
theorem oX11_task : gt_MO MX11_task 0 := ⟨mem_gw 997 (by decide +kernel) (by decide +kernel), ini_RX11, (by decide +kernel)⟩
theorem iX11_task : gt_IO MX11_task := ⟨mem_gw 995 (by decide +kernel) (by decide +kernel), mem_gw 996 (by decide +kernel) (by decide +kernel)⟩
def MX11_tells : MT := (yX11_tells, cX11_tells, 6, none, 0, 0)
theorem oX11_tells : gt_MO MX11_tells 5 := ⟨mem_gw 1081 (by decide +kernel) (by decide +kernel), ini_RX11, (by decide +kernel)⟩
theorem iX11_tells : gt_IO MX11_tells := ⟨mem_gw 1080 (by decide +kernel) (by decide +kernel), mem_gw 33 (by decide +kernel) (by decide +kernel)⟩
def MX11_told : MT := (yX11_told, cX11_told, 2, some .int, 2, 47)
theorem oX11_told : gt_MO MX11_told 1 := ⟨mem_gw 1189 (by decide +kernel) (by decide +kernel), ini_RX11, (by decide +kernel)⟩
theorem iX11_told : gt_IO MX11_told := ⟨mem_gw 1187 (by decide +kernel) (by decide +kernel), mem_gw 1188 (by decide +kernel) (by decide +kernel)⟩
def MX11_under : MT := (yX11_under, cX11_under, 2, some .int, 5, 122)
theorem oX11_under : gt_MO MX11_under 1 := ⟨mem_gw 1278 (by decide +kernel) (by decide +kernel), ini_RX11, (by decide +kernel)⟩
theorem iX11_under : gt_IO MX11_under := ⟨mem_gw 1276 (by decide +kernel) (by decide +kernel), mem_gw 1277 (by decide +kernel) (by decide +kernel)⟩
def MX11_underIn : MT := (yX11_underIn, cX11_underIn, 9, some .int, 1, 25)
theorem oX11_underIn : gt_MO MX11_underIn 1 := ⟨mem_gw 1282 (by decide +kernel) (by decide +kernel), ini_RX11, (by decide +kernel)⟩
theorem iX11_underIn : gt_IO MX11_underIn := ⟨mem_gw 1281 (by decide +kernel) (by decide +kernel), mem_gw 66 (by decide +kernel) (by decide +kernel)⟩
def MX11_word : MT := (yX11_word, cX11_word, 4, some .int, 1, 25)
theorem oX11_word : gt_MO MX11_word 0 := ⟨mem_gw 1051 (by decide +kernel) (by decide +kernel), ini_RX11, (by decide +kernel)⟩
theorem iX11_word : gt_IO MX11_word := ⟨mem_gw 1050 (by decide +kernel) (by decide +kernel), mem_gw 27 (by decide +kernel) (by decide +kernel)⟩
def MX1_aboutToEnter : MT := (yX1_aboutToEnter, cX1_aboutToEnter, 4, some .int, 1, 22)
theorem oX1_aboutToEnter : gt_MO MX1_aboutToEnter 1 := ⟨mem_gw 803 (by decide +kernel) (by decide +kernel), ini_RX1, (by decide +kernel)⟩
theorem iX1_aboutToEnter : gt_IO MX1_aboutToEnter := ⟨mem_gw 801 (by decide +kernel) (by decide +kernel), mem_gw 802 (by decide +kernel) (by decide +kernel)⟩
def MX1_allThatAre : MT := (yX1_allThatAre, cX1_allThatAre, 4, some .int, 0, 0)
theorem oX1_allThatAre : gt_MO MX1_allThatAre 1 := ⟨mem_gw 708 (by decide +kernel) (by decide +kernel), ini_RX1, (by decide +kernel)⟩
theorem iX1_allThatAre : gt_IO MX1_allThatAre := ⟨mem_gw 706 (by decide +kernel) (by decide +kernel), mem_gw 707 (by decide +kernel) (by decide +kernel)⟩
def MX1_chosenBy : MT := (yX1_chosenBy, cX1_chosenBy, 4, some .int, 0, 0)
theorem oX1_chosenBy : gt_MO MX1_chosenBy 1 := ⟨mem_gw 662 (by decide +kernel) (by decide +kernel), ini_RX1, (by decide +kernel)⟩
theorem iX1_chosenBy : gt_IO MX1_chosenBy := ⟨mem_gw 660 (by decide +kernel) (by decide +kernel), mem_gw 661 (by decide +kernel) (by decide +kernel)⟩
def MX1_copyFrom : MT := (yX1_copyFrom, cX1_copyFrom, 3, none, 2, 47)
theorem oX1_copyFrom : gt_MO MX1_copyFrom 1 := ⟨mem_gw 745 (by decide +kernel) (by decide +kernel), ini_RX1, (by decide +kernel)⟩
theorem iX1_copyFrom : gt_IO MX1_copyFrom := ⟨mem_gw 743 (by decide +kernel) (by decide +kernel), mem_gw 744 (by decide +kernel) (by decide +kernel)⟩
def MX1_doAtMonitor : MT := (yX1_doAtMonitor, cX1_doAtMonitor, 4, some .int, 2, 46)
theorem oX1_doAtMonitor : gt_MO MX1_doAtMonitor 3 := ⟨mem_gw 631 (by decide +kernel) (by decide +kernel), ini_RX1, (by decide +kernel)⟩
theorem iX1_doAtMonitor : gt_IO MX1_doAtMonitor := ⟨mem_gw 630 (by decide +kernel) (by decide +kernel), mem_gw 14 (by decide +kernel) (by decide +kernel)⟩
def MX1_doWithCells : MT := (yX1_doWithCells, cX1_doWithCells, 6, some .int, 1, 22)
theorem oX1_doWithCells : gt_MO MX1_doWithCells 3 := ⟨mem_gw 646 (by decide +kernel) (by decide +kernel), ini_RX1, (by decide +kernel)⟩
theorem iX1_doWithCells : gt_IO MX1_doWithCells := ⟨mem_gw 645 (by decide +kernel) (by decide +kernel), mem_gw 17 (by decide +kernel) (by decide +kernel)⟩
def MX1_end : MT := (yX1_end, cX1_end, 5, none, 2, 43)
theorem oX1_end : gt_MO MX1_end 2 := ⟨mem_gw 616 (by decide +kernel) (by decide +kernel), ini_RX1, (by decide +kernel)⟩
theorem iX1_end : gt_IO MX1_end := ⟨mem_gw 615 (by decide +kernel) (by decide +kernel), mem_gw 12 (by decide +kernel) (by decide +kernel)⟩
def MX1_enter : MT := (yX1_enter, cX1_enter, 3, some .int, 1, 22)
theorem oX1_enter : gt_MO MX1_enter 2 := ⟨mem_gw 635 (by decide +kernel) (by decide +kernel), ini_RX1, (by decide +kernel)⟩
theorem iX1_enter : gt_IO MX1_enter := ⟨mem_gw 634 (by decide +kernel) (by decide +kernel), mem_gw 15 (by decide +kernel) (by decide +kernel)⟩
def MX1_forgetReasons : MT := (yX1_forgetReasons, cX1_forgetReasons, 1, none, 1, 23)
theorem oX1_forgetReasons : gt_MO MX1_forgetReasons 0 := ⟨mem_gw 420 (by decide +kernel) (by decide +kernel), ini_RX1, (by decide +kernel)⟩
theorem iX1_forgetReasons : gt_IO MX1_forgetReasons := ⟨mem_gw 418 (by decide +kernel) (by decide +kernel), mem_gw 419 (by decide +kernel) (by decide +kernel)⟩
def MX1_free : MT := (yX1_free, cX1_free, 3, none, 1, 21)
theorem oX1_free : gt_MO MX1_free 1 := ⟨mem_gw 620 (by decide +kernel) (by decide +kernel), ini_RX1, (by decide +kernel)⟩
theorem iX1_free : gt_IO MX1_free := ⟨mem_gw 619 (by decide +kernel) (by decide +kernel), mem_gw 13 (by decide +kernel) (by decide +kernel)⟩
def MX1_init : MT := (yX1_init, cX1_init, 2, none, 2, 40)
theorem oX1_init : gt_MO MX1_init 0 := ⟨mem_gw 99 (by decide +kernel) (by decide +kernel), ini_RX1, (by decide +kernel)⟩
theorem nX1_init : Cond.instanceMethod (gt_y MX1_init) ∈ gw := mem_gw 98 (by decide +kernel) (by decide +kernel)
def MX1_isOver : MT := (yX1_isOver, cX1_isOver, 1, some .boolean, 1, 23)
theorem oX1_isOver : gt_MO MX1_isOver 0 := ⟨mem_gw 721 (by decide +kernel) (by decide +kernel), ini_RX1, (by decide +kernel)⟩
theorem iX1_isOver : gt_IO MX1_isOver := ⟨mem_gw 719 (by decide +kernel) (by decide +kernel), mem_gw 720 (by decide +kernel) (by decide +kernel)⟩
def MX1_isUsed : MT := (yX1_isUsed, cX1_isUsed, 2, some .boolean, 0, 0)
theorem oX1_isUsed : gt_MO MX1_isUsed 1 := ⟨mem_gw 431 (by decide +kernel) (by decide +kernel), ini_RX1, (by decide +kernel)⟩
theorem iX1_isUsed : gt_IO MX1_isUsed := ⟨mem_gw 429 (by decide +kernel) (by decide +kernel), mem_gw 430 (by decide +kernel) (by decide +kernel)⟩
def MX1_newTask : MT := (yX1_newTask, cX1_newTask, 1, some .int, 0, 0)
theorem oX1_newTask : gt_MO MX1_newTask 0 := ⟨mem_gw 408 (by decide +kernel) (by decide +kernel), ini_RX1, (by decide +kernel)⟩
theorem iX1_newTask : gt_IO MX1_newTask := ⟨mem_gw 406 (by decide +kernel) (by decide +kernel), mem_gw 407 (by decide +kernel) (by decide +kernel)⟩
def MX1_ownedBy : MT := (yX1_ownedBy, cX1_ownedBy, 4, some .int, 0, 0)
theorem oX1_ownedBy : gt_MO MX1_ownedBy 1 := ⟨mem_gw 688 (by decide +kernel) (by decide +kernel), ini_RX1, (by decide +kernel)⟩
theorem iX1_ownedBy : gt_IO MX1_ownedBy := ⟨mem_gw 686 (by decide +kernel) (by decide +kernel), mem_gw 687 (by decide +kernel) (by decide +kernel)⟩
def MX1_startAgain : MT := (yX1_startAgain, cX1_startAgain, 1, none, 2, 43)
theorem oX1_startAgain : gt_MO MX1_startAgain 0 := ⟨mem_gw 416 (by decide +kernel) (by decide +kernel), ini_RX1, (by decide +kernel)⟩
theorem iX1_startAgain : gt_IO MX1_startAgain := ⟨mem_gw 414 (by decide +kernel) (by decide +kernel), mem_gw 415 (by decide +kernel) (by decide +kernel)⟩
def MX1_sticks : MT := (yX1_sticks, cX1_sticks, 1, some .boolean, 1, 23)
theorem oX1_sticks : gt_MO MX1_sticks 0 := ⟨mem_gw 716 (by decide +kernel) (by decide +kernel), ini_RX1, (by decide +kernel)⟩
theorem iX1_sticks : gt_IO MX1_sticks := ⟨mem_gw 714 (by decide +kernel) (by decide +kernel), mem_gw 715 (by decide +kernel) (by decide +kernel)⟩
def MX1_take : MT := (yX1_take, cX1_take, 5, none, 3, 69)
theorem oX1_take : gt_MO MX1_take 1 := ⟨mem_gw 612 (by decide +kernel) (by decide +kernel), ini_RX1, (by decide +kernel)⟩
theorem iX1_take : gt_IO MX1_take := ⟨mem_gw 610 (by decide +kernel) (by decide +kernel), mem_gw 611 (by decide +kernel) (by decide +kernel)⟩
def MX1_wake : MT := (yX1_wake, cX1_wake, 5, none, 1, 22)
theorem oX1_wake : gt_MO MX1_wake 2 := ⟨mem_gw 642 (by decide +kernel) (by decide +kernel), ini_RX1, (by decide +kernel)⟩
theorem iX1_wake : gt_IO MX1_wake := ⟨mem_gw 641 (by decide +kernel) (by decide +kernel), mem_gw 16 (by decide +kernel) (by decide +kernel)⟩
def MX1_whereStands : MT := (yX1_whereStands, cX1_whereStands, 3, some .int, 1, 22)
theorem oX1_whereStands : gt_MO MX1_whereStands 1 := ⟨mem_gw 681 (by decide +kernel) (by decide +kernel), ini_RX1, (by decide +kernel)⟩
theorem iX1_whereStands : gt_IO MX1_whereStands := ⟨mem_gw 679 (by decide +kernel) (by decide +kernel), mem_gw 680 (by decide +kernel) (by decide +kernel)⟩
def MX2_begin : MT := (yX2_begin, cX2_begin, 3, none, 1, 23)
theorem oX2_begin : gt_MO MX2_begin 2 := ⟨mem_gw 876 (by decide +kernel) (by decide +kernel), ini_RX2, (by decide +kernel)⟩
theorem iX2_begin : gt_IO MX2_begin := ⟨mem_gw 874 (by decide +kernel) (by decide +kernel), mem_gw 875 (by decide +kernel) (by decide +kernel)⟩
def MX2_hasPlace : MT := (yX2_hasPlace, cX2_hasPlace, 3, some .boolean, 0, 0)
theorem oX2_hasPlace : gt_MO MX2_hasPlace 2 := ⟨mem_gw 884 (by decide +kernel) (by decide +kernel), ini_RX2, (by decide +kernel)⟩
theorem iX2_hasPlace : gt_IO MX2_hasPlace := ⟨mem_gw 882 (by decide +kernel) (by decide +kernel), mem_gw 883 (by decide +kernel) (by decide +kernel)⟩
def MX2_init : MT := (yX2_init, cX2_init, 1, none, 1, 23)
theorem oX2_init : gt_MO MX2_init 0 := ⟨mem_gw 355 (by decide +kernel) (by decide +kernel), ini_RX2, (by decide +kernel)⟩
theorem nX2_init : Cond.instanceMethod (gt_y MX2_init) ∈ gw := mem_gw 354 (by decide +kernel) (by decide +kernel)
def MX2_refusalOf : MT := (yX2_refusalOf, cX2_refusalOf, 2, some .int, 1, 20)
theorem oX2_refusalOf : gt_MO MX2_refusalOf 1 := ⟨mem_gw 670 (by decide +kernel) (by decide +kernel), ini_RX2, (by decide +kernel)⟩
theorem iX2_refusalOf : gt_IO MX2_refusalOf := ⟨mem_gw 668 (by decide +kernel) (by decide +kernel), mem_gw 669 (by decide +kernel) (by decide +kernel)⟩
def MX3_append : MT := (yX3_append, cX3_append, 6, none, 0, 0)
theorem oX3_append : gt_MO MX3_append 4 := ⟨mem_gw 576 (by decide +kernel) (by decide +kernel), ini_RX3, (by decide +kernel)⟩
theorem iX3_append : gt_IO MX3_append := ⟨mem_gw 574 (by decide +kernel) (by decide +kernel), mem_gw 575 (by decide +kernel) (by decide +kernel)⟩
def MX3_copyFrom : MT := (yX3_copyFrom, cX3_copyFrom, 2, none, 1, 26)
theorem oX3_copyFrom : gt_MO MX3_copyFrom 1 := ⟨mem_gw 588 (by decide +kernel) (by decide +kernel), ini_RX3, (by decide +kernel)⟩
theorem iX3_copyFrom : gt_IO MX3_copyFrom := ⟨mem_gw 586 (by decide +kernel) (by decide +kernel), mem_gw 587 (by decide +kernel) (by decide +kernel)⟩
def MX3_init : MT := (yX3_init, cX3_init, 1, none, 1, 20)
theorem oX3_init : gt_MO MX3_init 0 := ⟨mem_gw 106 (by decide +kernel) (by decide +kernel), ini_RX3, (by decide +kernel)⟩
theorem nX3_init : Cond.instanceMethod (gt_y MX3_init) ∈ gw := mem_gw 105 (by decide +kernel) (by decide +kernel)
def MX3_part : MT := (yX3_part, cX3_part, 3, some .int, 0, 0)
theorem oX3_part : gt_MO MX3_part 2 := ⟨mem_gw 600 (by decide +kernel) (by decide +kernel), ini_RX3, (by decide +kernel)⟩
theorem iX3_part : gt_IO MX3_part := ⟨mem_gw 598 (by decide +kernel) (by decide +kernel), mem_gw 599 (by decide +kernel) (by decide +kernel)⟩
def MX4_allowed : MT := (yX4_allowed, cX4_allowed, 4, some .int, 0, 0)
theorem oX4_allowed : gt_MO MX4_allowed 3 := ⟨mem_gw 564 (by decide +kernel) (by decide +kernel), ini_RX4, (by decide +kernel)⟩
theorem iX4_allowed : gt_IO MX4_allowed := ⟨mem_gw 563 (by decide +kernel) (by decide +kernel), mem_gw 7 (by decide +kernel) (by decide +kernel)⟩
def MX4_init : MT := (yX4_init, cX4_init, 1, none, 2, 40)
theorem oX4_init : gt_MO MX4_init 0 := ⟨mem_gw 197 (by decide +kernel) (by decide +kernel), ini_RX4, (by decide +kernel)⟩
theorem nX4_init : Cond.instanceMethod (gt_y MX4_init) ∈ gw := mem_gw 196 (by decide +kernel) (by decide +kernel)
def MX4_isWord : MT := (yX4_isWord, cX4_isWord, 4, some .boolean, 5, 106)
theorem oX4_isWord : gt_MO MX4_isWord 2 := ⟨mem_gw 500 (by decide +kernel) (by decide +kernel), ini_RX4, (by decide +kernel)⟩
theorem iX4_isWord : gt_IO MX4_isWord := ⟨mem_gw 499 (by decide +kernel) (by decide +kernel), mem_gw 3 (by decide +kernel) (by decide +kernel)⟩
def MX4_read : MT := (yX4_read, cX4_read, 3, some .int, 8, 175)
theorem oX4_read : gt_MO MX4_read 0 := ⟨mem_gw 472 (by decide +kernel) (by decide +kernel), ini_RX4, (by decide +kernel)⟩
theorem iX4_read : gt_IO MX4_read := ⟨mem_gw 470 (by decide +kernel) (by decide +kernel), mem_gw 471 (by decide +kernel) (by decide +kernel)⟩
def MX4_readBlank : MT := (yX4_readBlank, cX4_readBlank, 1, none, 1, 21)
theorem oX4_readBlank : gt_MO MX4_readBlank 0 := ⟨mem_gw 556 (by decide +kernel) (by decide +kernel), ini_RX4, (by decide +kernel)⟩
theorem iX4_readBlank : gt_IO MX4_readBlank := ⟨mem_gw 555 (by decide +kernel) (by decide +kernel), mem_gw 5 (by decide +kernel) (by decide +kernel)⟩
def MX4_readFigureBelow : MT := (yX4_readFigureBelow, cX4_readFigureBelow, 3, some .int, 2, 45)
theorem oX4_readFigureBelow : gt_MO MX4_readFigureBelow 1 := ⟨mem_gw 568 (by decide +kernel) (by decide +kernel), ini_RX4, (by decide +kernel)⟩
theorem iX4_readFigureBelow : gt_IO MX4_readFigureBelow := ⟨mem_gw 567 (by decide +kernel) (by decide +kernel), mem_gw 8 (by decide +kernel) (by decide +kernel)⟩
def MX4_readNumber : MT := (yX4_readNumber, cX4_readNumber, 3, some .int, 2, 45)
theorem oX4_readNumber : gt_MO MX4_readNumber 0 := ⟨mem_gw 572 (by decide +kernel) (by decide +kernel), ini_RX4, (by decide +kernel)⟩
theorem iX4_readNumber : gt_IO MX4_readNumber := ⟨mem_gw 571 (by decide +kernel) (by decide +kernel), mem_gw 9 (by decide +kernel) (by decide +kernel)⟩
def MX4_readStatement : MT := (yX4_readStatement, cX4_readStatement, 5, none, 7, 151)
theorem oX4_readStatement : gt_MO MX4_readStatement 0 := ⟨mem_gw 476 (by decide +kernel) (by decide +kernel), ini_RX4, (by decide +kernel)⟩
theorem iX4_readStatement : gt_IO MX4_readStatement := ⟨mem_gw 475 (by decide +kernel) (by decide +kernel), mem_gw 1 (by decide +kernel) (by decide +kernel)⟩
def MX4_readTarget : MT := (yX4_readTarget, cX4_readTarget, 3, some .int, 2, 45)
theorem oX4_readTarget : gt_MO MX4_readTarget 0 := ⟨mem_gw 552 (by decide +kernel) (by decide +kernel), ini_RX4, (by decide +kernel)⟩
theorem iX4_readTarget : gt_IO MX4_readTarget := ⟨mem_gw 551 (by decide +kernel) (by decide +kernel), mem_gw 4 (by decide +kernel) (by decide +kernel)⟩
def MX4_readWord : MT := (yX4_readWord, cX4_readWord, 3, some .int, 6, 129)
theorem oX4_readWord : gt_MO MX4_readWord 0 := ⟨mem_gw 480 (by decide +kernel) (by decide +kernel), ini_RX4, (by decide +kernel)⟩
theorem iX4_readWord : gt_IO MX4_readWord := ⟨mem_gw 479 (by decide +kernel) (by decide +kernel), mem_gw 2 (by decide +kernel) (by decide +kernel)⟩
def MX4_takeFigures : MT := (yX4_takeFigures, cX4_takeFigures, 5, some .int, 1, 21)
theorem oX4_takeFigures : gt_MO MX4_takeFigures 1 := ⟨mem_gw 560 (by decide +kernel) (by decide +kernel), ini_RX4, (by decide +kernel)⟩
theorem iX4_takeFigures : gt_IO MX4_takeFigures := ⟨mem_gw 559 (by decide +kernel) (by decide +kernel), mem_gw 6 (by decide +kernel) (by decide +kernel)⟩
def MX4_wordOf : MT := (yX4_wordOf, cX4_wordOf, 1, some (.object "java/lang/String"), 0, 0)
theorem oX4_wordOf : gt_MO MX4_wordOf 1 := ⟨mem_gw 487 (by decide +kernel) (by decide +kernel), ini_RX4, (by decide +kernel)⟩
theorem sX4_wordOf : Cond.static (gt_y MX4_wordOf) ∈ gw := mem_gw 486 (by decide +kernel) (by decide +kernel)
def MX5_at : MT := (yX5_at, cX5_at, 2, some .int, 0, 0)
theorem oX5_at : gt_MO MX5_at 2 := ⟨mem_gw 623 (by decide +kernel) (by decide +kernel), ini_RX5, (by decide +kernel)⟩
theorem sX5_at : Cond.static (gt_y MX5_at) ∈ gw := mem_gw 622 (by decide +kernel) (by decide +kernel)
def MX5_has : MT := (yX5_has, cX5_has, 3, some .boolean, 0, 0)
theorem oX5_has : gt_MO MX5_has 2 := ⟨mem_gw 684 (by decide +kernel) (by decide +kernel), ini_RX5, (by decide +kernel)⟩
theorem sX5_has : Cond.static (gt_y MX5_has) ∈ gw := mem_gw 683 (by decide +kernel) (by decide +kernel)
def MX5_length : MT := (yX5_length, cX5_length, 3, some .int, 0, 0)
theorem oX5_length : gt_MO MX5_length 1 := ⟨mem_gw 695 (by decide +kernel) (by decide +kernel), ini_RX5, (by decide +kernel)⟩
theorem sX5_length : Cond.static (gt_y MX5_length) ∈ gw := mem_gw 694 (by decide +kernel) (by decide +kernel)
def MX5_withLast : MT := (yX5_withLast, cX5_withLast, 3, some .int, 0, 0)
theorem oX5_withLast : gt_MO MX5_withLast 2 := ⟨mem_gw 638 (by decide +kernel) (by decide +kernel), ini_RX5, (by decide +kernel)⟩
theorem sX5_withLast : Cond.static (gt_y MX5_withLast) ∈ gw := mem_gw 637 (by decide +kernel) (by decide +kernel)
def MX5_withoutFirst : MT := (yX5_withoutFirst, cX5_withoutFirst, 1, some .int, 0, 0)
theorem oX5_withoutFirst : gt_MO MX5_withoutFirst 1 := ⟨mem_gw 626 (by decide +kernel) (by decide +kernel), ini_RX5, (by decide +kernel)⟩
theorem sX5_withoutFirst : Cond.static (gt_y MX5_withoutFirst) ∈ gw := mem_gw 625 (by decide +kernel) (by decide +kernel)
def MX6_begin : MT := (yX6_begin, cX6_begin, 2, none, 3, 69)
theorem oX6_begin : gt_MO MX6_begin 1 := ⟨mem_gw 741 (by decide +kernel) (by decide +kernel), ini_RX6, (by decide +kernel)⟩
theorem iX6_begin : gt_IO MX6_begin := ⟨mem_gw 740 (by decide +kernel) (by decide +kernel), mem_gw 18 (by decide +kernel) (by decide +kernel)⟩
def MX6_cellOfOutcome : MT := (yX6_cellOfOutcome, cX6_cellOfOutcome, 3, some .int, 1, 21)
theorem oX6_cellOfOutcome : gt_MO MX6_cellOfOutcome 2 := ⟨mem_gw 841 (by decide +kernel) (by decide +kernel), ini_RX6, (by decide +kernel)⟩
theorem iX6_cellOfOutcome : gt_IO MX6_cellOfOutcome := ⟨mem_gw 839 (by decide +kernel) (by decide +kernel), mem_gw 840 (by decide +kernel) (by decide +kernel)⟩
def MX6_depthOf : MT := (yX6_depthOf, cX6_depthOf, 2, some .int, 0, 0)
theorem oX6_depthOf : gt_MO MX6_depthOf 1 := ⟨mem_gw 820 (by decide +kernel) (by decide +kernel), ini_RX6, (by decide +kernel)⟩
theorem iX6_depthOf : gt_IO MX6_depthOf := ⟨mem_gw 818 (by decide +kernel) (by decide +kernel), mem_gw 819 (by decide +kernel) (by decide +kernel)⟩
def MX6_explore : MT := (yX6_explore, cX6_explore, 5, none, 4, 93)
theorem oX6_explore : gt_MO MX6_explore 2 := ⟨mem_gw 737 (by decide +kernel) (by decide +kernel), ini_RX6, (by decide +kernel)⟩
theorem iX6_explore : gt_IO MX6_explore := ⟨mem_gw 735 (by decide +kernel) (by decide +kernel), mem_gw 736 (by decide +kernel) (by decide +kernel)⟩
def MX6_forget : MT := (yX6_forget, cX6_forget, 1, none, 0, 0)
theorem oX6_forget : gt_MO MX6_forget 0 := ⟨mem_gw 404 (by decide +kernel) (by decide +kernel), ini_RX6, (by decide +kernel)⟩
theorem iX6_forget : gt_IO MX6_forget := ⟨mem_gw 402 (by decide +kernel) (by decide +kernel), mem_gw 403 (by decide +kernel) (by decide +kernel)⟩
def MX6_goesRound : MT := (yX6_goesRound, cX6_goesRound, 6, some .boolean, 0, 0)
theorem oX6_goesRound : gt_MO MX6_goesRound 0 := ⟨mem_gw 854 (by decide +kernel) (by decide +kernel), ini_RX6, (by decide +kernel)⟩
theorem iX6_goesRound : gt_IO MX6_goesRound := ⟨mem_gw 852 (by decide +kernel) (by decide +kernel), mem_gw 853 (by decide +kernel) (by decide +kernel)⟩
def MX6_greatestDepth : MT := (yX6_greatestDepth, cX6_greatestDepth, 1, some .int, 1, 21)
theorem oX6_greatestDepth : gt_MO MX6_greatestDepth 0 := ⟨mem_gw 816 (by decide +kernel) (by decide +kernel), ini_RX6, (by decide +kernel)⟩
theorem iX6_greatestDepth : gt_IO MX6_greatestDepth := ⟨mem_gw 814 (by decide +kernel) (by decide +kernel), mem_gw 815 (by decide +kernel) (by decide +kernel)⟩
def MX6_init : MT := (yX6_init, cX6_init, 1, none, 3, 61)
theorem oX6_init : gt_MO MX6_init 0 := ⟨mem_gw 271 (by decide +kernel) (by decide +kernel), ini_RX6, (by decide +kernel)⟩
theorem nX6_init : Cond.instanceMethod (gt_y MX6_init) ∈ gw := mem_gw 270 (by decide +kernel) (by decide +kernel)
def MX6_moverOf : MT := (yX6_moverOf, cX6_moverOf, 6, some .int, 1, 21)
theorem oX6_moverOf : gt_MO MX6_moverOf 2 := ⟨mem_gw 829 (by decide +kernel) (by decide +kernel), ini_RX6, (by decide +kernel)⟩
theorem iX6_moverOf : gt_IO MX6_moverOf := ⟨mem_gw 827 (by decide +kernel) (by decide +kernel), mem_gw 828 (by decide +kernel) (by decide +kernel)⟩
def MX6_note : MT := (yX6_note, cX6_note, 5, none, 3, 68)
theorem oX6_note : gt_MO MX6_note 4 := ⟨mem_gw 781 (by decide +kernel) (by decide +kernel), ini_RX6, (by decide +kernel)⟩
theorem iX6_note : gt_IO MX6_note := ⟨mem_gw 780 (by decide +kernel) (by decide +kernel), mem_gw 22 (by decide +kernel) (by decide +kernel)⟩
def MX6_noteMonitors : MT := (yX6_noteMonitors, cX6_noteMonitors, 4, none, 2, 45)
theorem oX6_noteMonitors : gt_MO MX6_noteMonitors 0 := ⟨mem_gw 799 (by decide +kernel) (by decide +kernel), ini_RX6, (by decide +kernel)⟩
theorem iX6_noteMonitors : gt_IO MX6_noteMonitors := ⟨mem_gw 798 (by decide +kernel) (by decide +kernel), mem_gw 24 (by decide +kernel) (by decide +kernel)⟩
def MX6_noteOutcome : MT := (yX6_noteOutcome, cX6_noteOutcome, 3, none, 1, 22)
theorem oX6_noteOutcome : gt_MO MX6_noteOutcome 0 := ⟨mem_gw 794 (by decide +kernel) (by decide +kernel), ini_RX6, (by decide +kernel)⟩
theorem iX6_noteOutcome : gt_IO MX6_noteOutcome := ⟨mem_gw 793 (by decide +kernel) (by decide +kernel), mem_gw 23 (by decide +kernel) (by decide +kernel)⟩
def MX7_empty : MT := (yX7_empty, cX7_empty, 1, none, 1, 23)
theorem oX7_empty : gt_MO MX7_empty 0 := ⟨mem_gw 751 (by decide +kernel) (by decide +kernel), ini_RX7, (by decide +kernel)⟩
theorem iX7_empty : gt_IO MX7_empty := ⟨mem_gw 749 (by decide +kernel) (by decide +kernel), mem_gw 750 (by decide +kernel) (by decide +kernel)⟩
def MX7_firstSlot : MT := (yX7_firstSlot, cX7_firstSlot, 3, some .int, 0, 0)
theorem oX7_firstSlot : gt_MO MX7_firstSlot 0 := ⟨mem_gw 771 (by decide +kernel) (by decide +kernel), ini_RX7, (by decide +kernel)⟩
theorem iX7_firstSlot : gt_IO MX7_firstSlot := ⟨mem_gw 770 (by decide +kernel) (by decide +kernel), mem_gw 20 (by decide +kernel) (by decide +kernel)⟩
def MX7_init : MT := (yX7_init, cX7_init, 1, none, 1, 20)
theorem oX7_init : gt_MO MX7_init 0 := ⟨mem_gw 279 (by decide +kernel) (by decide +kernel), ini_RX7, (by decide +kernel)⟩
theorem nX7_init : Cond.instanceMethod (gt_y MX7_init) ∈ gw := mem_gw 278 (by decide +kernel) (by decide +kernel)
def MX7_isDraft : MT := (yX7_isDraft, cX7_isDraft, 3, some .boolean, 0, 0)
theorem oX7_isDraft : gt_MO MX7_isDraft 1 := ⟨mem_gw 776 (by decide +kernel) (by decide +kernel), ini_RX7, (by decide +kernel)⟩
theorem iX7_isDraft : gt_IO MX7_isDraft := ⟨mem_gw 775 (by decide +kernel) (by decide +kernel), mem_gw 21 (by decide +kernel) (by decide +kernel)⟩
def MX7_keep : MT := (yX7_keep, cX7_keep, 4, some .int, 2, 44)
theorem oX7_keep : gt_MO MX7_keep 1 := ⟨mem_gw 757 (by decide +kernel) (by decide +kernel), ini_RX7, (by decide +kernel)⟩
theorem iX7_keep : gt_IO MX7_keep := ⟨mem_gw 755 (by decide +kernel) (by decide +kernel), mem_gw 756 (by decide +kernel) (by decide +kernel)⟩
def MX7_pack : MT := (yX7_pack, cX7_pack, 3, none, 1, 22)
theorem oX7_pack : gt_MO MX7_pack 1 := ⟨mem_gw 761 (by decide +kernel) (by decide +kernel), ini_RX7, (by decide +kernel)⟩
theorem iX7_pack : gt_IO MX7_pack := ⟨mem_gw 760 (by decide +kernel) (by decide +kernel), mem_gw 19 (by decide +kernel) (by decide +kernel)⟩
def MX7_packedCells : MT := (yX7_packedCells, cX7_packedCells, 3, some .int, 0, 0)
theorem oX7_packedCells : gt_MO MX7_packedCells 1 := ⟨mem_gw 767 (by decide +kernel) (by decide +kernel), ini_RX7, (by decide +kernel)⟩
theorem sX7_packedCells : Cond.static (gt_y MX7_packedCells) ∈ gw := mem_gw 766 (by decide +kernel) (by decide +kernel)
def MX7_packedTask : MT := (yX7_packedTask, cX7_packedTask, 2, some .int, 0, 0)
theorem oX7_packedTask : gt_MO MX7_packedTask 2 := ⟨mem_gw 764 (by decide +kernel) (by decide +kernel), ini_RX7, (by decide +kernel)⟩
theorem sX7_packedTask : Cond.static (gt_y MX7_packedTask) ∈ gw := mem_gw 763 (by decide +kernel) (by decide +kernel)
def MX7_unpack : MT := (yX7_unpack, cX7_unpack, 6, none, 1, 21)
theorem oX7_unpack : gt_MO MX7_unpack 2 := ⟨mem_gw 808 (by decide +kernel) (by decide +kernel), ini_RX7, (by decide +kernel)⟩
theorem iX7_unpack : gt_IO MX7_unpack := ⟨mem_gw 806 (by decide +kernel) (by decide +kernel), mem_gw 807 (by decide +kernel) (by decide +kernel)⟩
def MX7_unpackedCell : MT := (yX7_unpackedCell, cX7_unpackedCell, 2, some .int, 0, 0)
theorem oX7_unpackedCell : gt_MO MX7_unpackedCell 2 := ⟨mem_gw 811 (by decide +kernel) (by decide +kernel), ini_RX7, (by decide +kernel)⟩
theorem sX7_unpackedCell : Cond.static (gt_y MX7_unpackedCell) ∈ gw := mem_gw 810 (by decide +kernel) (by decide +kernel)
def MX8_append : MT := (yX8_append, cX8_append, 2, none, 0, 0)
theorem oX8_append : gt_MO MX8_append 1 := ⟨mem_gw 456 (by decide +kernel) (by decide +kernel), ini_RX8, (by decide +kernel)⟩
theorem iX8_append : gt_IO MX8_append := ⟨mem_gw 454 (by decide +kernel) (by decide +kernel), mem_gw 455 (by decide +kernel) (by decide +kernel)⟩
def MX8_at : MT := (yX8_at, cX8_at, 2, some .int, 0, 0)
theorem oX8_at : gt_MO MX8_at 1 := ⟨mem_gw 484 (by decide +kernel) (by decide +kernel), ini_RX8, (by decide +kernel)⟩
theorem iX8_at : gt_IO MX8_at := ⟨mem_gw 482 (by decide +kernel) (by decide +kernel), mem_gw 483 (by decide +kernel) (by decide +kernel)⟩
def MX8_init : MT := (yX8_init, cX8_init, 1, none, 1, 20)
theorem oX8_init : gt_MO MX8_init 0 := ⟨mem_gw 203 (by decide +kernel) (by decide +kernel), ini_RX8, (by decide +kernel)⟩
theorem nX8_init : Cond.instanceMethod (gt_y MX8_init) ∈ gw := mem_gw 202 (by decide +kernel) (by decide +kernel)
def MX9_append : MT := (yX9_append, cX9_append, 3, none, 0, 0)
theorem oX9_append : gt_MO MX9_append 2 := ⟨mem_gw 584 (by decide +kernel) (by decide +kernel), ini_RX9, (by decide +kernel)⟩
theorem iX9_append : gt_IO MX9_append := ⟨mem_gw 583 (by decide +kernel) (by decide +kernel), mem_gw 10 (by decide +kernel) (by decide +kernel)⟩
def MX9_init : MT := (yX9_init, cX9_init, 1, none, 1, 20)
theorem oX9_init : gt_MO MX9_init 0 := ⟨mem_gw 235 (by decide +kernel) (by decide +kernel), ini_RX9, (by decide +kernel)⟩
theorem nX9_init : Cond.instanceMethod (gt_y MX9_init) ∈ gw := mem_gw 234 (by decide +kernel) (by decide +kernel)
def MX9_link : MT := (yX9_link, cX9_link, 3, some .int, 0, 0)
theorem oX9_link : gt_MO MX9_link 2 := ⟨mem_gw 729 (by decide +kernel) (by decide +kernel), ini_RX9, (by decide +kernel)⟩
theorem iX9_link : gt_IO MX9_link := ⟨mem_gw 727 (by decide +kernel) (by decide +kernel), mem_gw 728 (by decide +kernel) (by decide +kernel)⟩
def MX9_ofProgram : MT := (yX9_ofProgram, cX9_ofProgram, 4, none, 1, 22)
theorem oX9_ofProgram : gt_MO MX9_ofProgram 3 := ⟨mem_gw 580 (by decide +kernel) (by decide +kernel), ini_RX9, (by decide +kernel)⟩
theorem iX9_ofProgram : gt_IO MX9_ofProgram := ⟨mem_gw 578 (by decide +kernel) (by decide +kernel), mem_gw 579 (by decide +kernel) (by decide +kernel)⟩
def MX9_ofStep : MT := (yX9_ofStep, cX9_ofStep, 5, none, 1, 22)
theorem oX9_ofStep : gt_MO MX9_ofStep 4 := ⟨mem_gw 654 (by decide +kernel) (by decide +kernel), ini_RX9, (by decide +kernel)⟩
theorem iX9_ofStep : gt_IO MX9_ofStep := ⟨mem_gw 652 (by decide +kernel) (by decide +kernel), mem_gw 653 (by decide +kernel) (by decide +kernel)⟩
end
section
theorem cw_nat : Cond.native arraycopyName ∈ gw := mem_gw 591 (by decide +kernel) (by decide +kernel)
theorem cw_sta : Cond.static arraycopyName ∈ gw := mem_gw 590 (by decide +kernel) (by decide +kernel)
theorem mw_sta : Cond.static Lib.Math.min.name ∈ gw := mem_gw 649 (by decide +kernel) (by decide +kernel)
theorem mw_cod : Cond.code Lib.Math.min.name Lib.Math.min.code 2 (some .int) ∈ gw := mem_gw 650 (by decide +kernel) (by decide +kernel)
theorem lk_RJ0_492 : Cond.methodLink RJ0 492 yJ0_isLatin1_aae02 ∈ gw := mem_gw 515 (by decide +kernel) (by decide +kernel)
theorem lk_RJ0_495 : Cond.methodLink RJ0 495 yJ1_charAt_3b067 ∈ gw := mem_gw 519 (by decide +kernel) (by decide +kernel)
theorem lk_RJ0_1059 : Cond.methodLink RJ0 1059 yJ3_checkIndex_8e157 ∈ gw := mem_gw 527 (by decide +kernel) (by decide +kernel)
theorem lk_RJ0_335 : Cond.methodLink RJ0 335 yJ0_coder_7d493 ∈ gw := mem_gw 505 (by decide +kernel) (by decide +kernel)
theorem lk_RJ1_9 : Cond.methodLink RJ1 9 yJ0_checkIndex_df160 ∈ gw := mem_gw 522 (by decide +kernel) (by decide +kernel)
theorem lk_RL_9 : Cond.methodLink RL 9 yX10_init ∈ gw := mem_gw 89 (by decide +kernel) (by decide +kernel)
theorem lk_RL_12 : Cond.methodLink RL 12 yX11_init ∈ gw := mem_gw 902 (by decide +kernel) (by decide +kernel)
theorem lk_RL_13 : Cond.methodLink RL 13 yX10_task ∈ gw := mem_gw 397 (by decide +kernel) (by decide +kernel)
theorem lk_RL_17 : Cond.methodLink RL 17 yX11_task ∈ gw := mem_gw 994 (by decide +kernel) (by decide +kernel)
theorem lk_RL_18 : Cond.methodLink RL 18 yX10_restart ∈ gw := mem_gw 409 (by decide +kernel) (by decide +kernel)
theorem lk_RL_21 : Cond.methodLink RL 21 yX11_restart ∈ gw := mem_gw 998 (by decide +kernel) (by decide +kernel)
theorem lk_RL_22 : Cond.methodLink RL 22 yX10_missing ∈ gw := mem_gw 421 (by decide +kernel) (by decide +kernel)
theorem lk_RL_26 : Cond.methodLink RL 26 yX11_missing ∈ gw := mem_gw 1002 (by decide +kernel) (by decide +kernel)
theorem lk_RL_27 : Cond.methodLink RL 27 yX10_put ∈ gw := mem_gw 435 (by decide +kernel) (by decide +kernel)
theorem lk_RL_31 : Cond.methodLink RL 31 yX11_put ∈ gw := mem_gw 1013 (by decide +kernel) (by decide +kernel)
theorem lk_RL_32 : Cond.methodLink RL 32 yX10_cell ∈ gw := mem_gw 445 (by decide +kernel) (by decide +kernel)
theorem lk_RL_36 : Cond.methodLink RL 36 yX11_cell ∈ gw := mem_gw 1023 (by decide +kernel) (by decide +kernel)
theorem lk_RL_37 : Cond.methodLink RL 37 yX10_feed ∈ gw := mem_gw 449 (by decide +kernel) (by decide +kernel)
theorem lk_RL_40 : Cond.methodLink RL 40 yX11_feed ∈ gw := mem_gw 1027 (by decide +kernel) (by decide +kernel)
theorem lk_RL_41 : Cond.methodLink RL 41 yX10_clear ∈ gw := mem_gw 457 (by decide +kernel) (by decide +kernel)
theorem lk_RL_44 : Cond.methodLink RL 44 yX11_clear ∈ gw := mem_gw 1032 (by decide +kernel) (by decide +kernel)
theorem lk_RL_45 : Cond.methodLink RL 45 yX10_program ∈ gw := mem_gw 461 (by decide +kernel) (by decide +kernel)
theorem lk_RL_48 : Cond.methodLink RL 48 yX11_program ∈ gw := mem_gw 1036 (by decide +kernel) (by decide +kernel)
theorem lk_RL_49 : Cond.methodLink RL 49 yX10_statement ∈ gw := mem_gw 593 (by decide +kernel) (by decide +kernel)
theorem lk_RL_53 : Cond.methodLink RL 53 yX11_statement ∈ gw := mem_gw 1085 (by decide +kernel) (by decide +kernel)
theorem lk_RL_54 : Cond.methodLink RL 54 yX10_step ∈ gw := mem_gw 601 (by decide +kernel) (by decide +kernel)
theorem lk_RL_57 : Cond.methodLink RL 57 yX11_step ∈ gw := mem_gw 1093 (by decide +kernel) (by decide +kernel)
theorem lk_RL_58 : Cond.methodLink RL 58 yX10_run ∈ gw := mem_gw 655 (by decide +kernel) (by decide +kernel)
theorem lk_RL_61 : Cond.methodLink RL 61 yX11_run ∈ gw := mem_gw 1141 (by decide +kernel) (by decide +kernel)
theorem lk_RL_62 : Cond.methodLink RL 62 yX10_follow ∈ gw := mem_gw 663 (by decide +kernel) (by decide +kernel)
theorem lk_RL_65 : Cond.methodLink RL 65 yX11_follow ∈ gw := mem_gw 1150 (by decide +kernel) (by decide +kernel)
theorem lk_RL_66 : Cond.methodLink RL 66 yX10_of ∈ gw := mem_gw 674 (by decide +kernel) (by decide +kernel)
theorem lk_RL_69 : Cond.methodLink RL 69 yX11_of ∈ gw := mem_gw 1157 (by decide +kernel) (by decide +kernel)
theorem lk_RL_70 : Cond.methodLink RL 70 yX10_gate ∈ gw := mem_gw 689 (by decide +kernel) (by decide +kernel)
theorem lk_RL_73 : Cond.methodLink RL 73 yX11_gate ∈ gw := mem_gw 1169 (by decide +kernel) (by decide +kernel)
theorem lk_RL_74 : Cond.methodLink RL 74 yX10_stands ∈ gw := mem_gw 696 (by decide +kernel) (by decide +kernel)
theorem lk_RL_77 : Cond.methodLink RL 77 yX11_stands ∈ gw := mem_gw 1173 (by decide +kernel) (by decide +kernel)
theorem lk_RL_78 : Cond.methodLink RL 78 yX10_are ∈ gw := mem_gw 701 (by decide +kernel) (by decide +kernel)
theorem lk_RL_81 : Cond.methodLink RL 81 yX11_are ∈ gw := mem_gw 1177 (by decide +kernel) (by decide +kernel)
theorem lk_RL_82 : Cond.methodLink RL 82 yX10_told ∈ gw := mem_gw 709 (by decide +kernel) (by decide +kernel)
theorem lk_RL_85 : Cond.methodLink RL 85 yX11_told ∈ gw := mem_gw 1186 (by decide +kernel) (by decide +kernel)
theorem lk_RL_86 : Cond.methodLink RL 86 yX10_cause ∈ gw := mem_gw 722 (by decide +kernel) (by decide +kernel)
theorem lk_RL_89 : Cond.methodLink RL 89 yX11_cause ∈ gw := mem_gw 1198 (by decide +kernel) (by decide +kernel)
theorem lk_RL_90 : Cond.methodLink RL 90 yX10_found ∈ gw := mem_gw 730 (by decide +kernel) (by decide +kernel)
theorem lk_RL_93 : Cond.methodLink RL 93 yX11_found ∈ gw := mem_gw 1202 (by decide +kernel) (by decide +kernel)
theorem lk_RL_94 : Cond.methodLink RL 94 yX10_schedule ∈ gw := mem_gw 822 (by decide +kernel) (by decide +kernel)
theorem lk_RL_97 : Cond.methodLink RL 97 yX11_schedule ∈ gw := mem_gw 1255 (by decide +kernel) (by decide +kernel)
theorem lk_RL_98 : Cond.methodLink RL 98 yX10_lay ∈ gw := mem_gw 830 (by decide +kernel) (by decide +kernel)
theorem lk_RL_101 : Cond.methodLink RL 101 yX11_lay ∈ gw := mem_gw 1267 (by decide +kernel) (by decide +kernel)
theorem lk_RL_102 : Cond.methodLink RL 102 yX10_outcome ∈ gw := mem_gw 834 (by decide +kernel) (by decide +kernel)
theorem lk_RL_105 : Cond.methodLink RL 105 yX11_outcome ∈ gw := mem_gw 1271 (by decide +kernel) (by decide +kernel)
theorem lk_RL_106 : Cond.methodLink RL 106 yX10_under ∈ gw := mem_gw 843 (by decide +kernel) (by decide +kernel)
theorem lk_RL_109 : Cond.methodLink RL 109 yX11_under ∈ gw := mem_gw 1275 (by decide +kernel) (by decide +kernel)
theorem lk_RL_110 : Cond.methodLink RL 110 yX10_round ∈ gw := mem_gw 847 (by decide +kernel) (by decide +kernel)
theorem lk_RL_113 : Cond.methodLink RL 113 yX11_round ∈ gw := mem_gw 1286 (by decide +kernel) (by decide +kernel)
theorem lk_RL_114 : Cond.methodLink RL 114 yX10_condition ∈ gw := mem_gw 855 (by decide +kernel) (by decide +kernel)
theorem lk_RL_117 : Cond.methodLink RL 117 yX11_condition ∈ gw := mem_gw 1290 (by decide +kernel) (by decide +kernel)
theorem lk_RL_118 : Cond.methodLink RL 118 yX10_holds ∈ gw := mem_gw 863 (by decide +kernel) (by decide +kernel)
theorem lk_RL_121 : Cond.methodLink RL 121 yX11_holds ∈ gw := mem_gw 1294 (by decide +kernel) (by decide +kernel)
theorem lk_RL_122 : Cond.methodLink RL 122 yX10_list ∈ gw := mem_gw 868 (by decide +kernel) (by decide +kernel)
theorem lk_RL_125 : Cond.methodLink RL 125 yX11_list ∈ gw := mem_gw 1298 (by decide +kernel) (by decide +kernel)
theorem lk_RL_126 : Cond.methodLink RL 126 yX10_set ∈ gw := mem_gw 877 (by decide +kernel) (by decide +kernel)
theorem lk_RL_129 : Cond.methodLink RL 129 yX11_set ∈ gw := mem_gw 1302 (by decide +kernel) (by decide +kernel)
theorem lk_RL_130 : Cond.methodLink RL 130 yX10_get ∈ gw := mem_gw 885 (by decide +kernel) (by decide +kernel)
theorem lk_RL_133 : Cond.methodLink RL 133 yX11_get ∈ gw := mem_gw 1306 (by decide +kernel) (by decide +kernel)
theorem lk_RL_134 : Cond.methodLink RL 134 yX10_image ∈ gw := mem_gw 890 (by decide +kernel) (by decide +kernel)
theorem lk_RL_137 : Cond.methodLink RL 137 yX11_image ∈ gw := mem_gw 1311 (by decide +kernel) (by decide +kernel)
theorem lk_RL_138 : Cond.methodLink RL 138 yX10_back ∈ gw := mem_gw 896 (by decide +kernel) (by decide +kernel)
theorem lk_RL_141 : Cond.methodLink RL 141 yX11_back ∈ gw := mem_gw 1315 (by decide +kernel) (by decide +kernel)
theorem lk_RX0_25 : Cond.methodLink RX0 25 yX0_isSo ∈ gw := mem_gw 787 (by decide +kernel) (by decide +kernel)
theorem lk_RX0_3 : Cond.methodLink RX0 3 objectInit ∈ gw := mem_gw 252 (by decide +kernel) (by decide +kernel)
theorem lk_RX10_198 : Cond.methodLink RX10 198 yX1_allThatAre ∈ gw := mem_gw 705 (by decide +kernel) (by decide +kernel)
theorem lk_RX10_67 : Cond.methodLink RX10 67 yX6_forget ∈ gw := mem_gw 401 (by decide +kernel) (by decide +kernel)
theorem lk_RX10_283 : Cond.methodLink RX10 283 yX1_copyFrom ∈ gw := mem_gw 894 (by decide +kernel) (by decide +kernel)
theorem lk_RX10_212 : Cond.methodLink RX10 212 yX9_link ∈ gw := mem_gw 726 (by decide +kernel) (by decide +kernel)
theorem lk_RX10_92 : Cond.methodLink RX10 92 yX10_isCell ∈ gw := mem_gw 439 (by decide +kernel) (by decide +kernel)
theorem lk_RX10_95 : Cond.methodLink RX10 95 yX10_isCellNumber ∈ gw := mem_gw 442 (by decide +kernel) (by decide +kernel)
theorem lk_RX10_265 : Cond.methodLink RX10 265 yX0_append ∈ gw := mem_gw 859 (by decide +kernel) (by decide +kernel)
theorem lk_RX10_107 : Cond.methodLink RX10 107 yX8_append ∈ gw := mem_gw 453 (by decide +kernel) (by decide +kernel)
theorem lk_RX10_153 : Cond.methodLink RX10 153 yX2_refusalOf ∈ gw := mem_gw 667 (by decide +kernel) (by decide +kernel)
theorem lk_RX10_111 : Cond.methodLink RX10 111 yX10_isTask ∈ gw := mem_gw 465 (by decide +kernel) (by decide +kernel)
theorem lk_RX10_146 : Cond.methodLink RX10 146 yX10_takeTruly ∈ gw := mem_gw 605 (by decide +kernel) (by decide +kernel)
theorem lk_RX10_215 : Cond.methodLink RX10 215 yX6_explore ∈ gw := mem_gw 734 (by decide +kernel) (by decide +kernel)
theorem lk_RX10_88 : Cond.methodLink RX10 88 yX10_asNumber ∈ gw := mem_gw 432 (by decide +kernel) (by decide +kernel)
theorem lk_RX10_235 : Cond.methodLink RX10 235 yX6_greatestDepth ∈ gw := mem_gw 813 (by decide +kernel) (by decide +kernel)
theorem lk_RX10_241 : Cond.methodLink RX10 241 yX6_depthOf ∈ gw := mem_gw 821 (by decide +kernel) (by decide +kernel)
theorem lk_RX10_77 : Cond.methodLink RX10 77 yX10_isMonitor ∈ gw := mem_gw 425 (by decide +kernel) (by decide +kernel)
theorem lk_RX10_187 : Cond.methodLink RX10 187 yX5_length ∈ gw := mem_gw 693 (by decide +kernel) (by decide +kernel)
theorem lk_RX10_271 : Cond.methodLink RX10 271 yX10_isList ∈ gw := mem_gw 872 (by decide +kernel) (by decide +kernel)
theorem lk_RX10_278 : Cond.methodLink RX10 278 yX2_hasPlace ∈ gw := mem_gw 881 (by decide +kernel) (by decide +kernel)
theorem lk_RX10_267 : Cond.methodLink RX10 267 yX0_allSo ∈ gw := mem_gw 867 (by decide +kernel) (by decide +kernel)
theorem lk_RX10_286 : Cond.methodLink RX10 286 yX1_forgetReasons ∈ gw := mem_gw 895 (by decide +kernel) (by decide +kernel)
theorem lk_RX10_1 : Cond.methodLink RX10 1 objectInit ∈ gw := mem_gw 92 (by decide +kernel) (by decide +kernel)
theorem lk_RX10_9 : Cond.methodLink RX10 9 yX1_init ∈ gw := mem_gw 97 (by decide +kernel) (by decide +kernel)
theorem lk_RX10_25 : (RX10, 25, yX4_init) ∈ gt_nest := (by decide +kernel)
theorem lk_RX10_37 : (RX10, 37, yX9_init) ∈ gt_nest := (by decide +kernel)
theorem lk_RX10_44 : (RX10, 44, yX0_init) ∈ gt_nest := (by decide +kernel)
theorem lk_RX10_51 : (RX10, 51, yX6_init) ∈ gt_nest := (by decide +kernel)
theorem lk_RX10_58 : Cond.methodLink RX10 58 yX2_init ∈ gw := mem_gw 353 (by decide +kernel) (by decide +kernel)
theorem lk_RX10_253 : Cond.methodLink RX10 253 yX6_moverOf ∈ gw := mem_gw 826 (by decide +kernel) (by decide +kernel)
theorem lk_RX10_274 : Cond.methodLink RX10 274 yX2_begin ∈ gw := mem_gw 873 (by decide +kernel) (by decide +kernel)
theorem lk_RX10_81 : Cond.methodLink RX10 81 yX1_isUsed ∈ gw := mem_gw 428 (by decide +kernel) (by decide +kernel)
theorem lk_RX10_166 : Cond.methodLink RX10 166 yX1_whereStands ∈ gw := mem_gw 678 (by decide +kernel) (by decide +kernel)
theorem lk_RX10_175 : Cond.methodLink RX10 175 yX1_ownedBy ∈ gw := mem_gw 685 (by decide +kernel) (by decide +kernel)
theorem lk_RX10_256 : Cond.methodLink RX10 256 yX6_cellOfOutcome ∈ gw := mem_gw 838 (by decide +kernel) (by decide +kernel)
theorem lk_RX10_120 : Cond.methodLink RX10 120 yX4_read ∈ gw := mem_gw 469 (by decide +kernel) (by decide +kernel)
theorem lk_RX10_130 : Cond.methodLink RX10 130 yX9_ofProgram ∈ gw := mem_gw 577 (by decide +kernel) (by decide +kernel)
theorem lk_RX10_138 : Cond.methodLink RX10 138 yX3_copyFrom ∈ gw := mem_gw 585 (by decide +kernel) (by decide +kernel)
theorem lk_RX10_74 : Cond.methodLink RX10 74 yX1_startAgain ∈ gw := mem_gw 413 (by decide +kernel) (by decide +kernel)
theorem lk_RX10_262 : Cond.methodLink RX10 262 yX6_goesRound ∈ gw := mem_gw 851 (by decide +kernel) (by decide +kernel)
theorem lk_RX10_149 : Cond.methodLink RX10 149 yX1_chosenBy ∈ gw := mem_gw 659 (by decide +kernel) (by decide +kernel)
theorem lk_RX10_195 : Cond.methodLink RX10 195 yX5_at ∈ gw := mem_gw 700 (by decide +kernel) (by decide +kernel)
theorem lk_RX10_142 : Cond.methodLink RX10 142 yX3_part ∈ gw := mem_gw 597 (by decide +kernel) (by decide +kernel)
theorem lk_RX10_289 : Cond.methodLink RX10 289 yX1_take ∈ gw := mem_gw 609 (by decide +kernel) (by decide +kernel)
theorem lk_RX10_292 : Cond.methodLink RX10 292 yX9_ofStep ∈ gw := mem_gw 651 (by decide +kernel) (by decide +kernel)
theorem lk_RX10_70 : Cond.methodLink RX10 70 yX1_newTask ∈ gw := mem_gw 405 (by decide +kernel) (by decide +kernel)
theorem lk_RX10_202 : Cond.methodLink RX10 202 yX1_sticks ∈ gw := mem_gw 713 (by decide +kernel) (by decide +kernel)
theorem lk_RX10_206 : Cond.methodLink RX10 206 yX1_isOver ∈ gw := mem_gw 718 (by decide +kernel) (by decide +kernel)
theorem lk_RX11_64 : Cond.methodLink RX11 64 yX11_in ∈ gw := mem_gw 1010 (by decide +kernel) (by decide +kernel)
theorem lk_RX11_215 : Cond.methodLink RX11 215 yX11_areIn ∈ gw := mem_gw 1182 (by decide +kernel) (by decide +kernel)
theorem lk_RX11_146 : Cond.methodLink RX11 146 yX11_copies ∈ gw := mem_gw 1082 (by decide +kernel) (by decide +kernel)
theorem lk_RX11_76 : Cond.methodLink RX11 76 yX11_isCell ∈ gw := mem_gw 1017 (by decide +kernel) (by decide +kernel)
theorem lk_RX11_191 : Cond.methodLink RX11 191 yX11_isReady ∈ gw := mem_gw 1097 (by decide +kernel) (by decide +kernel)
theorem lk_RX11_160 : Cond.methodLink RX11 160 yX11_isOwner ∈ gw := mem_gw 1113 (by decide +kernel) (by decide +kernel)
theorem lk_RX11_163 : Cond.methodLink RX11 163 yX11_frees ∈ gw := mem_gw 1117 (by decide +kernel) (by decide +kernel)
theorem lk_RX11_169 : Cond.methodLink RX11 169 yX11_comes ∈ gw := mem_gw 1133 (by decide +kernel) (by decide +kernel)
theorem lk_RX11_228 : Cond.methodLink RX11 228 yX11_isLike ∈ gw := mem_gw 1215 (by decide +kernel) (by decide +kernel)
theorem lk_RX11_238 : Cond.methodLink RX11 238 yX11_finds ∈ gw := mem_gw 1211 (by decide +kernel) (by decide +kernel)
theorem lk_RX11_188 : Cond.methodLink RX11 188 yX11_steps ∈ gw := mem_gw 1105 (by decide +kernel) (by decide +kernel)
theorem lk_RX11_241 : Cond.methodLink RX11 241 yX11_areSo ∈ gw := mem_gw 1235 (by decide +kernel) (by decide +kernel)
theorem lk_RX11_221 : Cond.methodLink RX11 221 yX11_sticks ∈ gw := mem_gw 1190 (by decide +kernel) (by decide +kernel)
theorem lk_RX11_203 : Cond.methodLink RX11 203 yX11_isList ∈ gw := mem_gw 1154 (by decide +kernel) (by decide +kernel)
theorem lk_RX11_194 : Cond.methodLink RX11 194 yX11_stepsTruly ∈ gw := mem_gw 1101 (by decide +kernel) (by decide +kernel)
theorem lk_RX11_252 : Cond.methodLink RX11 252 yX11_findsAll ∈ gw := mem_gw 1207 (by decide +kernel) (by decide +kernel)
theorem lk_RX11_255 : Cond.methodLink RX11 255 yX11_manyOf ∈ gw := mem_gw 1219 (by decide +kernel) (by decide +kernel)
theorem lk_RX11_259 : Cond.methodLink RX11 259 yX11_deepest ∈ gw := mem_gw 1223 (by decide +kernel) (by decide +kernel)
theorem lk_RX11_262 : Cond.methodLink RX11 262 yX11_firstSticking ∈ gw := mem_gw 1227 (by decide +kernel) (by decide +kernel)
theorem lk_RX11_265 : Cond.methodLink RX11 265 yX11_firstFailing ∈ gw := mem_gw 1231 (by decide +kernel) (by decide +kernel)
theorem lk_RX11_268 : Cond.methodLink RX11 268 yX11_outcomeAt ∈ gw := mem_gw 1239 (by decide +kernel) (by decide +kernel)
theorem lk_RX11_271 : Cond.methodLink RX11 271 yX11_isNested ∈ gw := mem_gw 1251 (by decide +kernel) (by decide +kernel)
theorem lk_RX11_154 : Cond.methodLink RX11 154 yX11_leaves ∈ gw := mem_gw 1121 (by decide +kernel) (by decide +kernel)
theorem lk_RX11_72 : Cond.methodLink RX11 72 yX11_isMonitor ∈ gw := mem_gw 1006 (by decide +kernel) (by decide +kernel)
theorem lk_RX11_1 : Cond.methodLink RX11 1 objectInit ∈ gw := mem_gw 905 (by decide +kernel) (by decide +kernel)
theorem lk_RX11_225 : Cond.methodLink RX11 225 yX11_isOver ∈ gw := mem_gw 1194 (by decide +kernel) (by decide +kernel)
theorem lk_RX11_244 : Cond.methodLink RX11 244 yX11_areCellsLike ∈ gw := mem_gw 1247 (by decide +kernel) (by decide +kernel)
theorem lk_RX11_133 : Cond.methodLink RX11 133 yX11_isTask ∈ gw := mem_gw 1040 (by decide +kernel) (by decide +kernel)
theorem lk_RX11_275 : Cond.methodLink RX11 275 yX11_goal ∈ gw := mem_gw 1259 (by decide +kernel) (by decide +kernel)
theorem lk_RX11_278 : Cond.methodLink RX11 278 yX11_onWay ∈ gw := mem_gw 1263 (by decide +kernel) (by decide +kernel)
theorem lk_RX11_173 : Cond.methodLink RX11 173 yX11_enters ∈ gw := mem_gw 1129 (by decide +kernel) (by decide +kernel)
theorem lk_RX11_177 : Cond.methodLink RX11 177 yX11_notifies ∈ gw := mem_gw 1137 (by decide +kernel) (by decide +kernel)
theorem lk_RX11_111 : Cond.methodLink RX11 111 yX11_takes ∈ gw := mem_gw 1070 (by decide +kernel) (by decide +kernel)
theorem lk_RX11_95 : Cond.methodLink RX11 95 yX11_here ∈ gw := mem_gw 1052 (by decide +kernel) (by decide +kernel)
theorem lk_RX11_99 : Cond.methodLink RX11 99 yX11_must ∈ gw := mem_gw 1062 (by decide +kernel) (by decide +kernel)
theorem lk_RX11_206 : Cond.methodLink RX11 206 yX11_standsAt ∈ gw := mem_gw 1161 (by decide +kernel) (by decide +kernel)
theorem lk_RX11_209 : Cond.methodLink RX11 209 yX11_ownedBy ∈ gw := mem_gw 1165 (by decide +kernel) (by decide +kernel)
theorem lk_RX11_247 : Cond.methodLink RX11 247 yX11_isOutcome ∈ gw := mem_gw 1243 (by decide +kernel) (by decide +kernel)
theorem lk_RX11_139 : Cond.methodLink RX11 139 yX11_statement1 ∈ gw := mem_gw 1044 (by decide +kernel) (by decide +kernel)
theorem lk_RX11_142 : Cond.methodLink RX11 142 yX11_tells ∈ gw := mem_gw 1078 (by decide +kernel) (by decide +kernel)
theorem lk_RX11_285 : Cond.methodLink RX11 285 yX11_underIn ∈ gw := mem_gw 1279 (by decide +kernel) (by decide +kernel)
theorem lk_RX11_282 : Cond.methodLink RX11 282 yX11_has ∈ gw := mem_gw 1283 (by decide +kernel) (by decide +kernel)
theorem lk_RX11_199 : Cond.methodLink RX11 199 yX11_chosen ∈ gw := mem_gw 1146 (by decide +kernel) (by decide +kernel)
theorem lk_RX11_150 : Cond.methodLink RX11 150 yX11_field ∈ gw := mem_gw 1089 (by decide +kernel) (by decide +kernel)
theorem lk_RX11_119 : Cond.methodLink RX11 119 yX11_word ∈ gw := mem_gw 1048 (by decide +kernel) (by decide +kernel)
theorem lk_RX11_122 : Cond.methodLink RX11 122 yX11_number ∈ gw := mem_gw 1066 (by decide +kernel) (by decide +kernel)
theorem lk_RX11_181 : Cond.methodLink RX11 181 yX11_ends ∈ gw := mem_gw 1109 (by decide +kernel) (by decide +kernel)
theorem lk_RX11_184 : Cond.methodLink RX11 184 yX11_monitors ∈ gw := mem_gw 1125 (by decide +kernel) (by decide +kernel)
theorem lk_RX11_107 : Cond.methodLink RX11 107 yX11_isWord ∈ gw := mem_gw 1058 (by decide +kernel) (by decide +kernel)
theorem lk_RX1_86 : Cond.methodLink RX1 86 yX3_part ∈ gw := mem_gw 627 (by decide +kernel) (by decide +kernel)
theorem lk_RX1_136 : (RX1, 136, yX10_isMonitor) ∈ gt_nest := (by decide +kernel)
theorem lk_RX1_72 : Cond.methodLink RX1 72 yX3_copyFrom ∈ gw := mem_gw 746 (by decide +kernel) (by decide +kernel)
theorem lk_RX1_76 : gt_CW RX1 76 := ⟨mem_gw 747 (by decide +kernel) (by decide +kernel), cw_nat, cw_sta, ini_RJ10⟩
theorem lk_RX1_98 : Cond.methodLink RX1 98 yX1_enter ∈ gw := mem_gw 632 (by decide +kernel) (by decide +kernel)
theorem lk_RX1_101 : Cond.methodLink RX1 101 yX1_free ∈ gw := mem_gw 617 (by decide +kernel) (by decide +kernel)
theorem lk_RX1_105 : Cond.methodLink RX1 105 yX5_withLast ∈ gw := mem_gw 636 (by decide +kernel) (by decide +kernel)
theorem lk_RX1_110 : Cond.methodLink RX1 110 yX1_wake ∈ gw := mem_gw 639 (by decide +kernel) (by decide +kernel)
theorem lk_RX1_120 : (RX1, 120, yX10_isCellNumber) ∈ gt_nest := (by decide +kernel)
theorem lk_RX1_124 : gt_MW RX1 124 := ⟨mem_gw 648 (by decide +kernel) (by decide +kernel), mw_sta, ini_RJ9, mw_cod⟩
theorem lk_RX1_60 : Cond.methodLink RX1 60 yJ7_fill_53178 ∈ gw := mem_gw 120 (by decide +kernel) (by decide +kernel)
theorem lk_RX1_113 : Cond.methodLink RX1 113 yX5_at ∈ gw := mem_gw 621 (by decide +kernel) (by decide +kernel)
theorem lk_RX1_116 : Cond.methodLink RX1 116 yX5_withoutFirst ∈ gw := mem_gw 624 (by decide +kernel) (by decide +kernel)
theorem lk_RX1_3 : Cond.methodLink RX1 3 objectInit ∈ gw := mem_gw 100 (by decide +kernel) (by decide +kernel)
theorem lk_RX1_59 : (RX1, 59, yX3_init) ∈ gt_nest := (by decide +kernel)
theorem lk_RX1_133 : Cond.methodLink RX1 133 yX1_allThatAre ∈ gw := mem_gw 717 (by decide +kernel) (by decide +kernel)
theorem lk_RX1_69 : Cond.methodLink RX1 69 yX1_forgetReasons ∈ gw := mem_gw 417 (by decide +kernel) (by decide +kernel)
theorem lk_RX1_82 : Cond.methodLink RX1 82 yX1_end ∈ gw := mem_gw 613 (by decide +kernel) (by decide +kernel)
theorem lk_RX1_90 : Cond.methodLink RX1 90 yX1_doAtMonitor ∈ gw := mem_gw 628 (by decide +kernel) (by decide +kernel)
theorem lk_RX1_94 : Cond.methodLink RX1 94 yX1_doWithCells ∈ gw := mem_gw 643 (by decide +kernel) (by decide +kernel)
theorem lk_RX1_129 : Cond.methodLink RX1 129 yX5_has ∈ gw := mem_gw 682 (by decide +kernel) (by decide +kernel)
theorem lk_RX2_20 : Cond.methodLink RX2 20 yJ7_fill_53178 ∈ gw := mem_gw 359 (by decide +kernel) (by decide +kernel)
theorem lk_RX2_3 : Cond.methodLink RX2 3 objectInit ∈ gw := mem_gw 356 (by decide +kernel) (by decide +kernel)
theorem lk_RX2_26 : (RX2, 26, yX10_isList) ∈ gt_nest := (by decide +kernel)
theorem lk_RX3_19 : gt_CW RX3 19 := ⟨mem_gw 589 (by decide +kernel) (by decide +kernel), cw_nat, cw_sta, ini_RJ10⟩
theorem lk_RX3_3 : Cond.methodLink RX3 3 objectInit ∈ gw := mem_gw 107 (by decide +kernel) (by decide +kernel)
theorem lk_RX4_3 : Cond.methodLink RX4 3 objectInit ∈ gw := mem_gw 198 (by decide +kernel) (by decide +kernel)
theorem lk_RX4_11 : (RX4, 11, yX8_init) ∈ gt_nest := (by decide +kernel)
theorem lk_RX4_20 : (RX4, 20, yX3_init) ∈ gt_nest := (by decide +kernel)
theorem lk_RX4_67 : Cond.methodLink RX4 67 yJ0_length_8abf5 ∈ gw := mem_gw 501 (by decide +kernel) (by decide +kernel)
theorem lk_RX4_38 : Cond.methodLink RX4 38 yX8_at ∈ gw := mem_gw 481 (by decide +kernel) (by decide +kernel)
theorem lk_RX4_72 : Cond.methodLink RX4 72 yJ0_charAt_5068e ∈ gw := mem_gw 511 (by decide +kernel) (by decide +kernel)
theorem lk_RX4_35 : Cond.methodLink RX4 35 yX4_readStatement ∈ gw := mem_gw 473 (by decide +kernel) (by decide +kernel)
theorem lk_RX4_94 : Cond.methodLink RX4 94 yX4_readBlank ∈ gw := mem_gw 553 (by decide +kernel) (by decide +kernel)
theorem lk_RX4_97 : Cond.methodLink RX4 97 yX4_takeFigures ∈ gw := mem_gw 557 (by decide +kernel) (by decide +kernel)
theorem lk_RX4_100 : Cond.methodLink RX4 100 yX4_allowed ∈ gw := mem_gw 561 (by decide +kernel) (by decide +kernel)
theorem lk_RX4_42 : Cond.methodLink RX4 42 yX4_readWord ∈ gw := mem_gw 477 (by decide +kernel) (by decide +kernel)
theorem lk_RX4_46 : Cond.methodLink RX4 46 yX4_readTarget ∈ gw := mem_gw 549 (by decide +kernel) (by decide +kernel)
theorem lk_RX4_49 : Cond.methodLink RX4 49 yX4_readFigureBelow ∈ gw := mem_gw 565 (by decide +kernel) (by decide +kernel)
theorem lk_RX4_52 : Cond.methodLink RX4 52 yX4_readNumber ∈ gw := mem_gw 569 (by decide +kernel) (by decide +kernel)
theorem lk_RX4_55 : Cond.methodLink RX4 55 yX3_append ∈ gw := mem_gw 573 (by decide +kernel) (by decide +kernel)
theorem lk_RX4_59 : Cond.methodLink RX4 59 yX4_wordOf ∈ gw := mem_gw 485 (by decide +kernel) (by decide +kernel)
theorem lk_RX4_63 : Cond.methodLink RX4 63 yX4_isWord ∈ gw := mem_gw 497 (by decide +kernel) (by decide +kernel)
theorem lk_RX6_96 : Cond.methodLink RX6 96 yX1_copyFrom ∈ gw := mem_gw 742 (by decide +kernel) (by decide +kernel)
theorem lk_RX6_99 : Cond.methodLink RX6 99 yX7_empty ∈ gw := mem_gw 748 (by decide +kernel) (by decide +kernel)
theorem lk_RX6_102 : Cond.methodLink RX6 102 yJ7_fill_53178 ∈ gw := mem_gw 753 (by decide +kernel) (by decide +kernel)
theorem lk_RX6_147 : Cond.methodLink RX6 147 yX7_unpackedCell ∈ gw := mem_gw 842 (by decide +kernel) (by decide +kernel)
theorem lk_RX6_67 : Cond.methodLink RX6 67 yX6_begin ∈ gw := mem_gw 738 (by decide +kernel) (by decide +kernel)
theorem lk_RX6_71 : Cond.methodLink RX6 71 yX7_keep ∈ gw := mem_gw 754 (by decide +kernel) (by decide +kernel)
theorem lk_RX6_75 : Cond.methodLink RX6 75 yX6_note ∈ gw := mem_gw 778 (by decide +kernel) (by decide +kernel)
theorem lk_RX6_85 : Cond.methodLink RX6 85 yX7_unpack ∈ gw := mem_gw 805 (by decide +kernel) (by decide +kernel)
theorem lk_RX6_92 : Cond.methodLink RX6 92 yX1_take ∈ gw := mem_gw 812 (by decide +kernel) (by decide +kernel)
theorem lk_RX6_144 : Cond.methodLink RX6 144 yX6_depthOf ∈ gw := mem_gw 817 (by decide +kernel) (by decide +kernel)
theorem lk_RX6_3 : Cond.methodLink RX6 3 objectInit ∈ gw := mem_gw 272 (by decide +kernel) (by decide +kernel)
theorem lk_RX6_17 : Cond.methodLink RX6 17 yX1_init ∈ gw := mem_gw 274 (by decide +kernel) (by decide +kernel)
theorem lk_RX6_24 : (RX6, 24, yX7_init) ∈ gt_nest := (by decide +kernel)
theorem lk_RX6_108 : Cond.methodLink RX6 108 yX1_sticks ∈ gw := mem_gw 782 (by decide +kernel) (by decide +kernel)
theorem lk_RX6_115 : Cond.methodLink RX6 115 yX0_allSo ∈ gw := mem_gw 783 (by decide +kernel) (by decide +kernel)
theorem lk_RX6_121 : Cond.methodLink RX6 121 yX1_isOver ∈ gw := mem_gw 790 (by decide +kernel) (by decide +kernel)
theorem lk_RX6_124 : Cond.methodLink RX6 124 yX6_noteOutcome ∈ gw := mem_gw 791 (by decide +kernel) (by decide +kernel)
theorem lk_RX6_127 : Cond.methodLink RX6 127 yX6_noteMonitors ∈ gw := mem_gw 796 (by decide +kernel) (by decide +kernel)
theorem lk_RX6_137 : Cond.methodLink RX6 137 yX1_aboutToEnter ∈ gw := mem_gw 800 (by decide +kernel) (by decide +kernel)
theorem lk_RX6_130 : Cond.methodLink RX6 130 yX7_packedCells ∈ gw := mem_gw 795 (by decide +kernel) (by decide +kernel)
theorem lk_RX7_25 : Cond.methodLink RX7 25 yJ7_fill_53178 ∈ gw := mem_gw 752 (by decide +kernel) (by decide +kernel)
theorem lk_RX7_3 : Cond.methodLink RX7 3 objectInit ∈ gw := mem_gw 280 (by decide +kernel) (by decide +kernel)
theorem lk_RX7_31 : Cond.methodLink RX7 31 yX7_pack ∈ gw := mem_gw 758 (by decide +kernel) (by decide +kernel)
theorem lk_RX7_35 : Cond.methodLink RX7 35 yX7_firstSlot ∈ gw := mem_gw 768 (by decide +kernel) (by decide +kernel)
theorem lk_RX7_39 : Cond.methodLink RX7 39 yX7_isDraft ∈ gw := mem_gw 773 (by decide +kernel) (by decide +kernel)
theorem lk_RX7_43 : gt_CW RX7 43 := ⟨mem_gw 777 (by decide +kernel) (by decide +kernel), cw_nat, cw_sta, ini_RJ10⟩
theorem lk_RX7_50 : Cond.methodLink RX7 50 yX7_packedTask ∈ gw := mem_gw 762 (by decide +kernel) (by decide +kernel)
theorem lk_RX7_71 : Cond.methodLink RX7 71 yX7_packedCells ∈ gw := mem_gw 765 (by decide +kernel) (by decide +kernel)
theorem lk_RX7_84 : Cond.methodLink RX7 84 yX7_unpackedCell ∈ gw := mem_gw 809 (by decide +kernel) (by decide +kernel)
theorem lk_RX8_3 : Cond.methodLink RX8 3 objectInit ∈ gw := mem_gw 204 (by decide +kernel) (by decide +kernel)
theorem lk_RX9_3 : Cond.methodLink RX9 3 objectInit ∈ gw := mem_gw 236 (by decide +kernel) (by decide +kernel)
theorem lk_RX9_22 : Cond.methodLink RX9 22 yX9_append ∈ gw := mem_gw 581 (by decide +kernel) (by decide +kernel)
theorem in_X0 : ∀ w ∈ u_ws RX0 TX0 4, w ∈ gw := by decide +kernel
theorem in_X1 : ∀ w ∈ u_ws RX1 TX1 14, w ∈ gw := by decide +kernel
theorem in_X2 : ∀ w ∈ u_ws RX2 TX2 2, w ∈ gw := by decide +kernel
theorem in_X3 : ∀ w ∈ u_ws RX3 TX3 2, w ∈ gw := by decide +kernel
theorem in_X4 : ∀ w ∈ u_ws RX4 TX4 4, w ∈ gw := by decide +kernel
theorem in_X6 : ∀ w ∈ u_ws RX6 TX6 15, w ∈ gw := by decide +kernel
theorem in_X7 : ∀ w ∈ u_ws RX7 TX7 4, w ∈ gw := by decide +kernel
theorem in_X8 : ∀ w ∈ u_ws RX8 TX8 2, w ∈ gw := by decide +kernel
theorem in_X9 : ∀ w ∈ u_ws RX9 TX9 3, w ∈ gw := by decide +kernel
theorem in_X10 : ∀ w ∈ u_ws RX10 TX10 9, w ∈ gw := by decide +kernel
theorem in_X11 : ∀ w ∈ u_ws RX11 TX11 29, w ∈ gw := by decide +kernel
theorem fo_RX3_9 : FO RX3 9 3 0 false (.int) := ⟨RX3, TX3, 2, tyX3, rfl, (by decide +kernel), in_X3, mem_gw 108 (by decide +kernel) (by decide +kernel), tyX3_ok, nmX3, rfl, rfl, rfl⟩
theorem fo_RX4_32 : FO RX4 32 3 0 false (.int) := ⟨RX3, TX3, 2, tyX3, rfl, (by decide +kernel), in_X3, mem_gw 109 (by decide +kernel) (by decide +kernel), tyX3_ok, nmX3, rfl, rfl, rfl⟩
theorem fo_RX1_66 : FO RX1 66 3 0 false (.int) := ⟨RX3, TX3, 2, tyX3, rfl, (by decide +kernel), in_X3, mem_gw 110 (by decide +kernel) (by decide +kernel), tyX3_ok, nmX3, rfl, rfl, rfl⟩
theorem fo_RX10_127 : FO RX10 127 3 0 false (.int) := ⟨RX3, TX3, 2, tyX3, rfl, (by decide +kernel), in_X3, mem_gw 111 (by decide +kernel) (by decide +kernel), tyX3_ok, nmX3, rfl, rfl, rfl⟩
theorem fo_RX3_15 : FO RX3 15 3 1 true (.array .int) := ⟨RX3, TX3, 2, tyX3, rfl, (by decide +kernel), in_X3, mem_gw 112 (by decide +kernel) (by decide +kernel), tyX3_ok, nmX3, rfl, rfl, rfl⟩
theorem fo_RX1_9 : FO RX1 9 1 0 false (.int) := ⟨RX1, TX1, 14, tyX1, rfl, (by decide +kernel), in_X1, mem_gw 123 (by decide +kernel) (by decide +kernel), tyX1_ok, nmX1, rfl, rfl, rfl⟩
theorem fo_RX10_63 : FO RX10 63 1 0 false (.int) := ⟨RX1, TX1, 14, tyX1, rfl, (by decide +kernel), in_X1, mem_gw 124 (by decide +kernel) (by decide +kernel), tyX1_ok, nmX1, rfl, rfl, rfl⟩
theorem fo_RX6_82 : FO RX6 82 1 0 false (.int) := ⟨RX1, TX1, 14, tyX1, rfl, (by decide +kernel), in_X1, mem_gw 125 (by decide +kernel) (by decide +kernel), tyX1_ok, nmX1, rfl, rfl, rfl⟩
theorem fo_RX1_15 : FO RX1 15 1 1 false (.int) := ⟨RX1, TX1, 14, tyX1, rfl, (by decide +kernel), in_X1, mem_gw 126 (by decide +kernel) (by decide +kernel), tyX1_ok, nmX1, rfl, rfl, rfl⟩
theorem fo_RX10_209 : FO RX10 209 1 1 false (.int) := ⟨RX1, TX1, 14, tyX1, rfl, (by decide +kernel), in_X1, mem_gw 127 (by decide +kernel) (by decide +kernel), tyX1_ok, nmX1, rfl, rfl, rfl⟩
theorem fo_RX1_20 : FO RX1 20 1 2 true (.array (.object "GateTurns$Program")) := ⟨RX1, TX1, 14, tyX1, rfl, (by decide +kernel), in_X1, mem_gw 128 (by decide +kernel) (by decide +kernel), tyX1_ok, nmX1, rfl, rfl, rfl⟩
theorem fo_RX10_134 : FO RX10 134 1 2 true (.array (.object "GateTurns$Program")) := ⟨RX1, TX1, 14, tyX1, rfl, (by decide +kernel), in_X1, mem_gw 129 (by decide +kernel) (by decide +kernel), tyX1_ok, nmX1, rfl, rfl, rfl⟩
theorem fo_RX1_24 : FO RX1 24 1 3 true (.array .int) := ⟨RX1, TX1, 14, tyX1, rfl, (by decide +kernel), in_X1, mem_gw 130 (by decide +kernel) (by decide +kernel), tyX1_ok, nmX1, rfl, rfl, rfl⟩
theorem fo_RX7_75 : FO RX7 75 1 3 true (.array .int) := ⟨RX1, TX1, 14, tyX1, rfl, (by decide +kernel), in_X1, mem_gw 131 (by decide +kernel) (by decide +kernel), tyX1_ok, nmX1, rfl, rfl, rfl⟩
theorem fo_RX10_114 : FO RX10 114 1 3 true (.array .int) := ⟨RX1, TX1, 14, tyX1, rfl, (by decide +kernel), in_X1, mem_gw 132 (by decide +kernel) (by decide +kernel), tyX1_ok, nmX1, rfl, rfl, rfl⟩
theorem fo_RX1_28 : FO RX1 28 1 4 true (.array .int) := ⟨RX1, TX1, 14, tyX1, rfl, (by decide +kernel), in_X1, mem_gw 133 (by decide +kernel) (by decide +kernel), tyX1_ok, nmX1, rfl, rfl, rfl⟩
theorem fo_RX6_89 : FO RX6 89 1 4 true (.array .int) := ⟨RX1, TX1, 14, tyX1, rfl, (by decide +kernel), in_X1, mem_gw 134 (by decide +kernel) (by decide +kernel), tyX1_ok, nmX1, rfl, rfl, rfl⟩
theorem fo_RX7_78 : FO RX7 78 1 4 true (.array .int) := ⟨RX1, TX1, 14, tyX1, rfl, (by decide +kernel), in_X1, mem_gw 135 (by decide +kernel) (by decide +kernel), tyX1_ok, nmX1, rfl, rfl, rfl⟩
theorem fo_RX10_117 : FO RX10 117 1 4 true (.array .int) := ⟨RX1, TX1, 14, tyX1, rfl, (by decide +kernel), in_X1, mem_gw 136 (by decide +kernel) (by decide +kernel), tyX1_ok, nmX1, rfl, rfl, rfl⟩
theorem fo_RX1_31 : FO RX1 31 1 5 true (.array .int) := ⟨RX1, TX1, 14, tyX1, rfl, (by decide +kernel), in_X1, mem_gw 137 (by decide +kernel) (by decide +kernel), tyX1_ok, nmX1, rfl, rfl, rfl⟩
theorem fo_RX7_81 : FO RX7 81 1 5 true (.array .int) := ⟨RX1, TX1, 14, tyX1, rfl, (by decide +kernel), in_X1, mem_gw 138 (by decide +kernel) (by decide +kernel), tyX1_ok, nmX1, rfl, rfl, rfl⟩
theorem fo_RX10_163 : FO RX10 163 1 5 true (.array .int) := ⟨RX1, TX1, 14, tyX1, rfl, (by decide +kernel), in_X1, mem_gw 139 (by decide +kernel) (by decide +kernel), tyX1_ok, nmX1, rfl, rfl, rfl⟩
theorem fo_RX1_34 : FO RX1 34 1 6 true (.array .int) := ⟨RX1, TX1, 14, tyX1, rfl, (by decide +kernel), in_X1, mem_gw 140 (by decide +kernel) (by decide +kernel), tyX1_ok, nmX1, rfl, rfl, rfl⟩
theorem fo_RX10_169 : FO RX10 169 1 6 true (.array .int) := ⟨RX1, TX1, 14, tyX1, rfl, (by decide +kernel), in_X1, mem_gw 141 (by decide +kernel) (by decide +kernel), tyX1_ok, nmX1, rfl, rfl, rfl⟩
theorem fo_RX1_37 : FO RX1 37 1 7 true (.array .int) := ⟨RX1, TX1, 14, tyX1, rfl, (by decide +kernel), in_X1, mem_gw 142 (by decide +kernel) (by decide +kernel), tyX1_ok, nmX1, rfl, rfl, rfl⟩
theorem fo_RX10_172 : FO RX10 172 1 7 true (.array .int) := ⟨RX1, TX1, 14, tyX1, rfl, (by decide +kernel), in_X1, mem_gw 143 (by decide +kernel) (by decide +kernel), tyX1_ok, nmX1, rfl, rfl, rfl⟩
theorem fo_RX1_40 : FO RX1 40 1 8 true (.array .boolean) := ⟨RX1, TX1, 14, tyX1, rfl, (by decide +kernel), in_X1, mem_gw 144 (by decide +kernel) (by decide +kernel), tyX1_ok, nmX1, rfl, rfl, rfl⟩
theorem fo_RX10_84 : FO RX10 84 1 8 true (.array .boolean) := ⟨RX1, TX1, 14, tyX1, rfl, (by decide +kernel), in_X1, mem_gw 145 (by decide +kernel) (by decide +kernel), tyX1_ok, nmX1, rfl, rfl, rfl⟩
theorem fo_RX1_44 : FO RX1 44 1 9 true (.array .int) := ⟨RX1, TX1, 14, tyX1, rfl, (by decide +kernel), in_X1, mem_gw 146 (by decide +kernel) (by decide +kernel), tyX1_ok, nmX1, rfl, rfl, rfl⟩
theorem fo_RX7_54 : FO RX7 54 1 9 true (.array .int) := ⟨RX1, TX1, 14, tyX1, rfl, (by decide +kernel), in_X1, mem_gw 147 (by decide +kernel) (by decide +kernel), tyX1_ok, nmX1, rfl, rfl, rfl⟩
theorem fo_RX6_141 : FO RX6 141 1 9 true (.array .int) := ⟨RX1, TX1, 14, tyX1, rfl, (by decide +kernel), in_X1, mem_gw 148 (by decide +kernel) (by decide +kernel), tyX1_ok, nmX1, rfl, rfl, rfl⟩
theorem fo_RX10_178 : FO RX10 178 1 9 true (.array .int) := ⟨RX1, TX1, 14, tyX1, rfl, (by decide +kernel), in_X1, mem_gw 149 (by decide +kernel) (by decide +kernel), tyX1_ok, nmX1, rfl, rfl, rfl⟩
theorem fo_RX1_47 : FO RX1 47 1 10 true (.array .int) := ⟨RX1, TX1, 14, tyX1, rfl, (by decide +kernel), in_X1, mem_gw 150 (by decide +kernel) (by decide +kernel), tyX1_ok, nmX1, rfl, rfl, rfl⟩
theorem fo_RX7_59 : FO RX7 59 1 10 true (.array .int) := ⟨RX1, TX1, 14, tyX1, rfl, (by decide +kernel), in_X1, mem_gw 151 (by decide +kernel) (by decide +kernel), tyX1_ok, nmX1, rfl, rfl, rfl⟩
theorem fo_RX6_134 : FO RX6 134 1 10 true (.array .int) := ⟨RX1, TX1, 14, tyX1, rfl, (by decide +kernel), in_X1, mem_gw 152 (by decide +kernel) (by decide +kernel), tyX1_ok, nmX1, rfl, rfl, rfl⟩
theorem fo_RX10_181 : FO RX10 181 1 10 true (.array .int) := ⟨RX1, TX1, 14, tyX1, rfl, (by decide +kernel), in_X1, mem_gw 153 (by decide +kernel) (by decide +kernel), tyX1_ok, nmX1, rfl, rfl, rfl⟩
theorem fo_RX1_50 : FO RX1 50 1 11 true (.array .int) := ⟨RX1, TX1, 14, tyX1, rfl, (by decide +kernel), in_X1, mem_gw 154 (by decide +kernel) (by decide +kernel), tyX1_ok, nmX1, rfl, rfl, rfl⟩
theorem fo_RX7_62 : FO RX7 62 1 11 true (.array .int) := ⟨RX1, TX1, 14, tyX1, rfl, (by decide +kernel), in_X1, mem_gw 155 (by decide +kernel) (by decide +kernel), tyX1_ok, nmX1, rfl, rfl, rfl⟩
theorem fo_RX10_184 : FO RX10 184 1 11 true (.array .int) := ⟨RX1, TX1, 14, tyX1, rfl, (by decide +kernel), in_X1, mem_gw 156 (by decide +kernel) (by decide +kernel), tyX1_ok, nmX1, rfl, rfl, rfl⟩
theorem fo_RX1_53 : FO RX1 53 1 12 true (.array .int) := ⟨RX1, TX1, 14, tyX1, rfl, (by decide +kernel), in_X1, mem_gw 157 (by decide +kernel) (by decide +kernel), tyX1_ok, nmX1, rfl, rfl, rfl⟩
theorem fo_RX7_65 : FO RX7 65 1 12 true (.array .int) := ⟨RX1, TX1, 14, tyX1, rfl, (by decide +kernel), in_X1, mem_gw 158 (by decide +kernel) (by decide +kernel), tyX1_ok, nmX1, rfl, rfl, rfl⟩
theorem fo_RX10_192 : FO RX10 192 1 12 true (.array .int) := ⟨RX1, TX1, 14, tyX1, rfl, (by decide +kernel), in_X1, mem_gw 159 (by decide +kernel) (by decide +kernel), tyX1_ok, nmX1, rfl, rfl, rfl⟩
theorem fo_RX1_56 : FO RX1 56 1 13 true (.array .int) := ⟨RX1, TX1, 14, tyX1, rfl, (by decide +kernel), in_X1, mem_gw 160 (by decide +kernel) (by decide +kernel), tyX1_ok, nmX1, rfl, rfl, rfl⟩
theorem fo_RX10_98 : FO RX10 98 1 13 true (.array .int) := ⟨RX1, TX1, 14, tyX1, rfl, (by decide +kernel), in_X1, mem_gw 161 (by decide +kernel) (by decide +kernel), tyX1_ok, nmX1, rfl, rfl, rfl⟩
theorem fo_RX6_112 : FO RX6 112 1 13 true (.array .int) := ⟨RX1, TX1, 14, tyX1, rfl, (by decide +kernel), in_X1, mem_gw 162 (by decide +kernel) (by decide +kernel), tyX1_ok, nmX1, rfl, rfl, rfl⟩
theorem fo_RX7_68 : FO RX7 68 1 13 true (.array .int) := ⟨RX1, TX1, 14, tyX1, rfl, (by decide +kernel), in_X1, mem_gw 163 (by decide +kernel) (by decide +kernel), tyX1_ok, nmX1, rfl, rfl, rfl⟩
theorem fo_RX8_9 : FO RX8 9 7 0 true (.array .int) := ⟨RX8, TX8, 2, tyX8, rfl, (by decide +kernel), in_X8, mem_gw 205 (by decide +kernel) (by decide +kernel), tyX8_ok, nmX8, rfl, rfl, rfl⟩
theorem fo_RX8_15 : FO RX8 15 7 1 false (.int) := ⟨RX8, TX8, 2, tyX8, rfl, (by decide +kernel), in_X8, mem_gw 206 (by decide +kernel) (by decide +kernel), tyX8_ok, nmX8, rfl, rfl, rfl⟩
theorem fo_RX4_41 : FO RX4 41 7 1 false (.int) := ⟨RX8, TX8, 2, tyX8, rfl, (by decide +kernel), in_X8, mem_gw 207 (by decide +kernel) (by decide +kernel), tyX8_ok, nmX8, rfl, rfl, rfl⟩
theorem fo_RX10_102 : FO RX10 102 7 1 false (.int) := ⟨RX8, TX8, 2, tyX8, rfl, (by decide +kernel), in_X8, mem_gw 208 (by decide +kernel) (by decide +kernel), tyX8_ok, nmX8, rfl, rfl, rfl⟩
theorem fo_RX4_12 : FO RX4 12 4 0 true (.object "GateTurns$Tape") := ⟨RX4, TX4, 4, tyX4, rfl, (by decide +kernel), in_X4, mem_gw 216 (by decide +kernel) (by decide +kernel), tyX4_ok, nmX4, rfl, rfl, rfl⟩
theorem fo_RX10_30 : FO RX10 30 4 0 true (.object "GateTurns$Tape") := ⟨RX4, TX4, 4, tyX4, rfl, (by decide +kernel), in_X4, mem_gw 217 (by decide +kernel) (by decide +kernel), tyX4_ok, nmX4, rfl, rfl, rfl⟩
theorem fo_RX4_21 : FO RX4 21 4 1 true (.object "GateTurns$Program") := ⟨RX4, TX4, 4, tyX4, rfl, (by decide +kernel), in_X4, mem_gw 218 (by decide +kernel) (by decide +kernel), tyX4_ok, nmX4, rfl, rfl, rfl⟩
theorem fo_RX10_123 : FO RX10 123 4 1 true (.object "GateTurns$Program") := ⟨RX4, TX4, 4, tyX4, rfl, (by decide +kernel), in_X4, mem_gw 219 (by decide +kernel) (by decide +kernel), tyX4_ok, nmX4, rfl, rfl, rfl⟩
theorem fo_RX4_25 : FO RX4 25 4 2 false (.int) := ⟨RX4, TX4, 4, tyX4, rfl, (by decide +kernel), in_X4, mem_gw 220 (by decide +kernel) (by decide +kernel), tyX4_ok, nmX4, rfl, rfl, rfl⟩
theorem fo_RX4_29 : FO RX4 29 4 3 false (.int) := ⟨RX4, TX4, 4, tyX4, rfl, (by decide +kernel), in_X4, mem_gw 221 (by decide +kernel) (by decide +kernel), tyX4_ok, nmX4, rfl, rfl, rfl⟩
theorem fo_RX9_9 : FO RX9 9 8 0 false (.int) := ⟨RX9, TX9, 3, tyX9, rfl, (by decide +kernel), in_X9, mem_gw 237 (by decide +kernel) (by decide +kernel), tyX9_ok, nmX9, rfl, rfl, rfl⟩
theorem fo_RX9_15 : FO RX9 15 8 1 true (.array .int) := ⟨RX9, TX9, 3, tyX9, rfl, (by decide +kernel), in_X9, mem_gw 238 (by decide +kernel) (by decide +kernel), tyX9_ok, nmX9, rfl, rfl, rfl⟩
theorem fo_RX9_19 : FO RX9 19 8 2 true (.array .int) := ⟨RX9, TX9, 3, tyX9, rfl, (by decide +kernel), in_X9, mem_gw 239 (by decide +kernel) (by decide +kernel), tyX9_ok, nmX9, rfl, rfl, rfl⟩
theorem fo_RX0_9 : FO RX0 9 0 0 false (.int) := ⟨RX0, TX0, 4, tyX0, rfl, (by decide +kernel), in_X0, mem_gw 253 (by decide +kernel) (by decide +kernel), tyX0_ok, nmX0, rfl, rfl, rfl⟩
theorem fo_RX10_201 : FO RX10 201 0 0 false (.int) := ⟨RX0, TX0, 4, tyX0, rfl, (by decide +kernel), in_X0, mem_gw 254 (by decide +kernel) (by decide +kernel), tyX0_ok, nmX0, rfl, rfl, rfl⟩
theorem fo_RX0_15 : FO RX0 15 0 1 true (.array .int) := ⟨RX0, TX0, 4, tyX0, rfl, (by decide +kernel), in_X0, mem_gw 255 (by decide +kernel) (by decide +kernel), tyX0_ok, nmX0, rfl, rfl, rfl⟩
theorem fo_RX0_19 : FO RX0 19 0 2 true (.array .int) := ⟨RX0, TX0, 4, tyX0, rfl, (by decide +kernel), in_X0, mem_gw 256 (by decide +kernel) (by decide +kernel), tyX0_ok, nmX0, rfl, rfl, rfl⟩
theorem fo_RX0_22 : FO RX0 22 0 3 true (.array .int) := ⟨RX0, TX0, 4, tyX0, rfl, (by decide +kernel), in_X0, mem_gw 257 (by decide +kernel) (by decide +kernel), tyX0_ok, nmX0, rfl, rfl, rfl⟩
theorem fo_RX7_9 : FO RX7 9 6 0 false (.int) := ⟨RX7, TX7, 4, tyX7, rfl, (by decide +kernel), in_X7, mem_gw 281 (by decide +kernel) (by decide +kernel), tyX7_ok, nmX7, rfl, rfl, rfl⟩
theorem fo_RX6_79 : FO RX6 79 6 0 false (.int) := ⟨RX7, TX7, 4, tyX7, rfl, (by decide +kernel), in_X7, mem_gw 282 (by decide +kernel) (by decide +kernel), tyX7_ok, nmX7, rfl, rfl, rfl⟩
theorem fo_RX10_223 : FO RX10 223 6 0 false (.int) := ⟨RX7, TX7, 4, tyX7, rfl, (by decide +kernel), in_X7, mem_gw 283 (by decide +kernel) (by decide +kernel), tyX7_ok, nmX7, rfl, rfl, rfl⟩
theorem fo_RX7_15 : FO RX7 15 6 1 true (.array .int) := ⟨RX7, TX7, 4, tyX7, rfl, (by decide +kernel), in_X7, mem_gw 284 (by decide +kernel) (by decide +kernel), tyX7_ok, nmX7, rfl, rfl, rfl⟩
theorem fo_RX7_19 : FO RX7 19 6 2 true (.array .int) := ⟨RX7, TX7, 4, tyX7, rfl, (by decide +kernel), in_X7, mem_gw 285 (by decide +kernel) (by decide +kernel), tyX7_ok, nmX7, rfl, rfl, rfl⟩
theorem fo_RX7_22 : FO RX7 22 6 3 true (.array .int) := ⟨RX7, TX7, 4, tyX7, rfl, (by decide +kernel), in_X7, mem_gw 286 (by decide +kernel) (by decide +kernel), tyX7_ok, nmX7, rfl, rfl, rfl⟩
theorem fo_RX6_9 : FO RX6 9 5 0 false (.boolean) := ⟨RX6, TX6, 15, tyX6, rfl, (by decide +kernel), in_X6, mem_gw 296 (by decide +kernel) (by decide +kernel), tyX6_ok, nmX6, rfl, rfl, rfl⟩
theorem fo_RX6_18 : FO RX6 18 5 1 true (.object "GateTurns$Desk") := ⟨RX6, TX6, 15, tyX6, rfl, (by decide +kernel), in_X6, mem_gw 297 (by decide +kernel) (by decide +kernel), tyX6_ok, nmX6, rfl, rfl, rfl⟩
theorem fo_RX6_25 : FO RX6 25 5 2 true (.object "GateTurns$States") := ⟨RX6, TX6, 15, tyX6, rfl, (by decide +kernel), in_X6, mem_gw 298 (by decide +kernel) (by decide +kernel), tyX6_ok, nmX6, rfl, rfl, rfl⟩
theorem fo_RX10_219 : FO RX10 219 5 2 true (.object "GateTurns$States") := ⟨RX6, TX6, 15, tyX6, rfl, (by decide +kernel), in_X6, mem_gw 299 (by decide +kernel) (by decide +kernel), tyX6_ok, nmX6, rfl, rfl, rfl⟩
theorem fo_RX6_29 : FO RX6 29 5 3 true (.array .int) := ⟨RX6, TX6, 15, tyX6, rfl, (by decide +kernel), in_X6, mem_gw 300 (by decide +kernel) (by decide +kernel), tyX6_ok, nmX6, rfl, rfl, rfl⟩
theorem fo_RX6_33 : FO RX6 33 5 4 true (.array .int) := ⟨RX6, TX6, 15, tyX6, rfl, (by decide +kernel), in_X6, mem_gw 301 (by decide +kernel) (by decide +kernel), tyX6_ok, nmX6, rfl, rfl, rfl⟩
theorem fo_RX6_36 : FO RX6 36 5 5 true (.array .int) := ⟨RX6, TX6, 15, tyX6, rfl, (by decide +kernel), in_X6, mem_gw 302 (by decide +kernel) (by decide +kernel), tyX6_ok, nmX6, rfl, rfl, rfl⟩
theorem fo_RX6_39 : FO RX6 39 5 6 true (.array .int) := ⟨RX6, TX6, 15, tyX6, rfl, (by decide +kernel), in_X6, mem_gw 303 (by decide +kernel) (by decide +kernel), tyX6_ok, nmX6, rfl, rfl, rfl⟩
theorem fo_RX6_42 : FO RX6 42 5 7 true (.array .int) := ⟨RX6, TX6, 15, tyX6, rfl, (by decide +kernel), in_X6, mem_gw 304 (by decide +kernel) (by decide +kernel), tyX6_ok, nmX6, rfl, rfl, rfl⟩
theorem fo_RX10_259 : FO RX10 259 5 7 true (.array .int) := ⟨RX6, TX6, 15, tyX6, rfl, (by decide +kernel), in_X6, mem_gw 305 (by decide +kernel) (by decide +kernel), tyX6_ok, nmX6, rfl, rfl, rfl⟩
theorem fo_RX6_45 : FO RX6 45 5 8 false (.boolean) := ⟨RX6, TX6, 15, tyX6, rfl, (by decide +kernel), in_X6, mem_gw 306 (by decide +kernel) (by decide +kernel), tyX6_ok, nmX6, rfl, rfl, rfl⟩
theorem fo_RX10_226 : FO RX10 226 5 8 false (.boolean) := ⟨RX6, TX6, 15, tyX6, rfl, (by decide +kernel), in_X6, mem_gw 307 (by decide +kernel) (by decide +kernel), tyX6_ok, nmX6, rfl, rfl, rfl⟩
theorem fo_RX6_48 : FO RX6 48 5 9 false (.boolean) := ⟨RX6, TX6, 15, tyX6, rfl, (by decide +kernel), in_X6, mem_gw 308 (by decide +kernel) (by decide +kernel), tyX6_ok, nmX6, rfl, rfl, rfl⟩
theorem fo_RX10_250 : FO RX10 250 5 9 false (.boolean) := ⟨RX6, TX6, 15, tyX6, rfl, (by decide +kernel), in_X6, mem_gw 309 (by decide +kernel) (by decide +kernel), tyX6_ok, nmX6, rfl, rfl, rfl⟩
theorem fo_RX6_51 : FO RX6 51 5 10 false (.int) := ⟨RX6, TX6, 15, tyX6, rfl, (by decide +kernel), in_X6, mem_gw 310 (by decide +kernel) (by decide +kernel), tyX6_ok, nmX6, rfl, rfl, rfl⟩
theorem fo_RX10_238 : FO RX10 238 5 10 false (.int) := ⟨RX6, TX6, 15, tyX6, rfl, (by decide +kernel), in_X6, mem_gw 311 (by decide +kernel) (by decide +kernel), tyX6_ok, nmX6, rfl, rfl, rfl⟩
theorem fo_RX6_55 : FO RX6 55 5 11 false (.int) := ⟨RX6, TX6, 15, tyX6, rfl, (by decide +kernel), in_X6, mem_gw 312 (by decide +kernel) (by decide +kernel), tyX6_ok, nmX6, rfl, rfl, rfl⟩
theorem fo_RX10_244 : FO RX10 244 5 11 false (.int) := ⟨RX6, TX6, 15, tyX6, rfl, (by decide +kernel), in_X6, mem_gw 313 (by decide +kernel) (by decide +kernel), tyX6_ok, nmX6, rfl, rfl, rfl⟩
theorem fo_RX6_58 : FO RX6 58 5 12 false (.int) := ⟨RX6, TX6, 15, tyX6, rfl, (by decide +kernel), in_X6, mem_gw 314 (by decide +kernel) (by decide +kernel), tyX6_ok, nmX6, rfl, rfl, rfl⟩
theorem fo_RX10_229 : FO RX10 229 5 12 false (.int) := ⟨RX6, TX6, 15, tyX6, rfl, (by decide +kernel), in_X6, mem_gw 315 (by decide +kernel) (by decide +kernel), tyX6_ok, nmX6, rfl, rfl, rfl⟩
theorem fo_RX6_61 : FO RX6 61 5 13 false (.int) := ⟨RX6, TX6, 15, tyX6, rfl, (by decide +kernel), in_X6, mem_gw 316 (by decide +kernel) (by decide +kernel), tyX6_ok, nmX6, rfl, rfl, rfl⟩
theorem fo_RX10_232 : FO RX10 232 5 13 false (.int) := ⟨RX6, TX6, 15, tyX6, rfl, (by decide +kernel), in_X6, mem_gw 317 (by decide +kernel) (by decide +kernel), tyX6_ok, nmX6, rfl, rfl, rfl⟩
theorem fo_RX6_64 : FO RX6 64 5 14 false (.int) := ⟨RX6, TX6, 15, tyX6, rfl, (by decide +kernel), in_X6, mem_gw 318 (by decide +kernel) (by decide +kernel), tyX6_ok, nmX6, rfl, rfl, rfl⟩
theorem fo_RX10_247 : FO RX10 247 5 14 false (.int) := ⟨RX6, TX6, 15, tyX6, rfl, (by decide +kernel), in_X6, mem_gw 319 (by decide +kernel) (by decide +kernel), tyX6_ok, nmX6, rfl, rfl, rfl⟩
theorem fo_RX2_9 : FO RX2 9 2 0 true (.array .int) := ⟨RX2, TX2, 2, tyX2, rfl, (by decide +kernel), in_X2, mem_gw 360 (by decide +kernel) (by decide +kernel), tyX2_ok, nmX2, rfl, rfl, rfl⟩
theorem fo_RX10_156 : FO RX10 156 2 0 true (.array .int) := ⟨RX2, TX2, 2, tyX2, rfl, (by decide +kernel), in_X2, mem_gw 361 (by decide +kernel) (by decide +kernel), tyX2_ok, nmX2, rfl, rfl, rfl⟩
theorem fo_RX2_17 : FO RX2 17 2 1 true (.array (.array .int)) := ⟨RX2, TX2, 2, tyX2, rfl, (by decide +kernel), in_X2, mem_gw 362 (by decide +kernel) (by decide +kernel), tyX2_ok, nmX2, rfl, rfl, rfl⟩
theorem fo_RX10_159 : FO RX10 159 2 1 true (.array (.array .int)) := ⟨RX2, TX2, 2, tyX2, rfl, (by decide +kernel), in_X2, mem_gw 363 (by decide +kernel) (by decide +kernel), tyX2_ok, nmX2, rfl, rfl, rfl⟩
theorem fo_RX10_10 : FO RX10 10 9 0 true (.object "GateTurns$Desk") := ⟨RX10, TX10, 9, tyX10, rfl, (by decide +kernel), in_X10, mem_gw 369 (by decide +kernel) (by decide +kernel), tyX10_ok, nmX10, rfl, rfl, rfl⟩
theorem fo_RX10_16 : FO RX10 16 9 1 true (.object "GateTurns$Desk") := ⟨RX10, TX10, 9, tyX10, rfl, (by decide +kernel), in_X10, mem_gw 370 (by decide +kernel) (by decide +kernel), tyX10_ok, nmX10, rfl, rfl, rfl⟩
theorem fo_RX10_19 : FO RX10 19 9 2 false (.boolean) := ⟨RX10, TX10, 9, tyX10, rfl, (by decide +kernel), in_X10, mem_gw 371 (by decide +kernel) (by decide +kernel), tyX10_ok, nmX10, rfl, rfl, rfl⟩
theorem fo_RX10_26 : FO RX10 26 9 3 true (.object "GateTurns$Reader") := ⟨RX10, TX10, 9, tyX10, rfl, (by decide +kernel), in_X10, mem_gw 372 (by decide +kernel) (by decide +kernel), tyX10_ok, nmX10, rfl, rfl, rfl⟩
theorem fo_RX10_34 : FO RX10 34 9 4 true (.object "GateTurns$Tape") := ⟨RX10, TX10, 9, tyX10, rfl, (by decide +kernel), in_X10, mem_gw 373 (by decide +kernel) (by decide +kernel), tyX10_ok, nmX10, rfl, rfl, rfl⟩
theorem fo_RX10_38 : FO RX10 38 9 5 true (.object "GateTurns$Trouble") := ⟨RX10, TX10, 9, tyX10, rfl, (by decide +kernel), in_X10, mem_gw 374 (by decide +kernel) (by decide +kernel), tyX10_ok, nmX10, rfl, rfl, rfl⟩
theorem fo_RX10_45 : FO RX10 45 9 6 true (.object "GateTurns$Conditions") := ⟨RX10, TX10, 9, tyX10, rfl, (by decide +kernel), in_X10, mem_gw 375 (by decide +kernel) (by decide +kernel), tyX10_ok, nmX10, rfl, rfl, rfl⟩
theorem fo_RX10_52 : FO RX10 52 9 7 true (.object "GateTurns$Search") := ⟨RX10, TX10, 9, tyX10, rfl, (by decide +kernel), in_X10, mem_gw 376 (by decide +kernel) (by decide +kernel), tyX10_ok, nmX10, rfl, rfl, rfl⟩
theorem fo_RX10_59 : FO RX10 59 9 8 true (.object "GateTurns$Lists") := ⟨RX10, TX10, 9, tyX10, rfl, (by decide +kernel), in_X10, mem_gw 377 (by decide +kernel) (by decide +kernel), tyX10_ok, nmX10, rfl, rfl, rfl⟩
theorem fo_RX11_9 : FO RX11 9 10 0 true (.array .int) := ⟨RX11, TX11, 29, tyX11, rfl, (by decide +kernel), in_X11, mem_gw 906 (by decide +kernel) (by decide +kernel), tyX11_ok, nmX11, rfl, rfl, rfl⟩
theorem fo_RX11_13 : FO RX11 13 10 1 true (.array .int) := ⟨RX11, TX11, 29, tyX11, rfl, (by decide +kernel), in_X11, mem_gw 907 (by decide +kernel) (by decide +kernel), tyX11_ok, nmX11, rfl, rfl, rfl⟩
theorem fo_RX11_16 : FO RX11 16 10 2 true (.array .int) := ⟨RX11, TX11, 29, tyX11, rfl, (by decide +kernel), in_X11, mem_gw 908 (by decide +kernel) (by decide +kernel), tyX11_ok, nmX11, rfl, rfl, rfl⟩
theorem fo_RX11_19 : FO RX11 19 10 3 true (.array .int) := ⟨RX11, TX11, 29, tyX11, rfl, (by decide +kernel), in_X11, mem_gw 909 (by decide +kernel) (by decide +kernel), tyX11_ok, nmX11, rfl, rfl, rfl⟩
theorem fo_RX11_22 : FO RX11 22 10 4 true (.array .int) := ⟨RX11, TX11, 29, tyX11, rfl, (by decide +kernel), in_X11, mem_gw 910 (by decide +kernel) (by decide +kernel), tyX11_ok, nmX11, rfl, rfl, rfl⟩
theorem fo_RX11_289 : FO RX11 289 10 5 false (.boolean) := ⟨RX11, TX11, 29, tyX11, rfl, (by decide +kernel), in_X11, mem_gw 911 (by decide +kernel) (by decide +kernel), tyX11_ok, nmX11, rfl, rfl, rfl⟩
theorem fo_RX11_25 : FO RX11 25 10 6 true (.array .int) := ⟨RX11, TX11, 29, tyX11, rfl, (by decide +kernel), in_X11, mem_gw 912 (by decide +kernel) (by decide +kernel), tyX11_ok, nmX11, rfl, rfl, rfl⟩
theorem fo_RX11_28 : FO RX11 28 10 7 true (.array .int) := ⟨RX11, TX11, 29, tyX11, rfl, (by decide +kernel), in_X11, mem_gw 913 (by decide +kernel) (by decide +kernel), tyX11_ok, nmX11, rfl, rfl, rfl⟩
theorem fo_RX11_31 : FO RX11 31 10 8 true (.array .int) := ⟨RX11, TX11, 29, tyX11, rfl, (by decide +kernel), in_X11, mem_gw 914 (by decide +kernel) (by decide +kernel), tyX11_ok, nmX11, rfl, rfl, rfl⟩
theorem fo_RX11_85 : FO RX11 85 10 9 false (.int) := ⟨RX11, TX11, 29, tyX11, rfl, (by decide +kernel), in_X11, mem_gw 915 (by decide +kernel) (by decide +kernel), tyX11_ok, nmX11, rfl, rfl, rfl⟩
theorem fo_RX11_89 : FO RX11 89 10 10 false (.int) := ⟨RX11, TX11, 29, tyX11, rfl, (by decide +kernel), in_X11, mem_gw 916 (by decide +kernel) (by decide +kernel), tyX11_ok, nmX11, rfl, rfl, rfl⟩
theorem fo_RX11_92 : FO RX11 92 10 11 false (.int) := ⟨RX11, TX11, 29, tyX11, rfl, (by decide +kernel), in_X11, mem_gw 917 (by decide +kernel) (by decide +kernel), tyX11_ok, nmX11, rfl, rfl, rfl⟩
theorem fo_RX11_136 : FO RX11 136 10 12 false (.int) := ⟨RX11, TX11, 29, tyX11, rfl, (by decide +kernel), in_X11, mem_gw 918 (by decide +kernel) (by decide +kernel), tyX11_ok, nmX11, rfl, rfl, rfl⟩
theorem fo_RX11_34 : FO RX11 34 10 13 true (.array .int) := ⟨RX11, TX11, 29, tyX11, rfl, (by decide +kernel), in_X11, mem_gw 919 (by decide +kernel) (by decide +kernel), tyX11_ok, nmX11, rfl, rfl, rfl⟩
theorem fo_RX11_37 : FO RX11 37 10 14 true (.array .int) := ⟨RX11, TX11, 29, tyX11, rfl, (by decide +kernel), in_X11, mem_gw 920 (by decide +kernel) (by decide +kernel), tyX11_ok, nmX11, rfl, rfl, rfl⟩
theorem fo_RX11_130 : FO RX11 130 10 15 false (.int) := ⟨RX11, TX11, 29, tyX11, rfl, (by decide +kernel), in_X11, mem_gw 921 (by decide +kernel) (by decide +kernel), tyX11_ok, nmX11, rfl, rfl, rfl⟩
theorem fo_RX11_166 : FO RX11 166 10 16 false (.int) := ⟨RX11, TX11, 29, tyX11, rfl, (by decide +kernel), in_X11, mem_gw 922 (by decide +kernel) (by decide +kernel), tyX11_ok, nmX11, rfl, rfl, rfl⟩
theorem fo_RX11_157 : FO RX11 157 10 17 false (.int) := ⟨RX11, TX11, 29, tyX11, rfl, (by decide +kernel), in_X11, mem_gw 923 (by decide +kernel) (by decide +kernel), tyX11_ok, nmX11, rfl, rfl, rfl⟩
theorem fo_RX11_40 : FO RX11 40 10 18 true (.array .int) := ⟨RX11, TX11, 29, tyX11, rfl, (by decide +kernel), in_X11, mem_gw 924 (by decide +kernel) (by decide +kernel), tyX11_ok, nmX11, rfl, rfl, rfl⟩
theorem fo_RX11_43 : FO RX11 43 10 19 true (.array .int) := ⟨RX11, TX11, 29, tyX11, rfl, (by decide +kernel), in_X11, mem_gw 925 (by decide +kernel) (by decide +kernel), tyX11_ok, nmX11, rfl, rfl, rfl⟩
theorem fo_RX11_46 : FO RX11 46 10 20 true (.array .int) := ⟨RX11, TX11, 29, tyX11, rfl, (by decide +kernel), in_X11, mem_gw 926 (by decide +kernel) (by decide +kernel), tyX11_ok, nmX11, rfl, rfl, rfl⟩
theorem fo_RX11_49 : FO RX11 49 10 21 true (.array .int) := ⟨RX11, TX11, 29, tyX11, rfl, (by decide +kernel), in_X11, mem_gw 927 (by decide +kernel) (by decide +kernel), tyX11_ok, nmX11, rfl, rfl, rfl⟩
theorem fo_RX11_52 : FO RX11 52 10 22 true (.array .int) := ⟨RX11, TX11, 29, tyX11, rfl, (by decide +kernel), in_X11, mem_gw 928 (by decide +kernel) (by decide +kernel), tyX11_ok, nmX11, rfl, rfl, rfl⟩
theorem fo_RX11_231 : FO RX11 231 10 23 false (.int) := ⟨RX11, TX11, 29, tyX11, rfl, (by decide +kernel), in_X11, mem_gw 929 (by decide +kernel) (by decide +kernel), tyX11_ok, nmX11, rfl, rfl, rfl⟩
theorem fo_RX11_234 : FO RX11 234 10 24 false (.boolean) := ⟨RX11, TX11, 29, tyX11, rfl, (by decide +kernel), in_X11, mem_gw 930 (by decide +kernel) (by decide +kernel), tyX11_ok, nmX11, rfl, rfl, rfl⟩
theorem fo_RX11_55 : FO RX11 55 10 25 true (.array .int) := ⟨RX11, TX11, 29, tyX11, rfl, (by decide +kernel), in_X11, mem_gw 931 (by decide +kernel) (by decide +kernel), tyX11_ok, nmX11, rfl, rfl, rfl⟩
theorem fo_RX11_218 : FO RX11 218 10 26 false (.int) := ⟨RX11, TX11, 29, tyX11, rfl, (by decide +kernel), in_X11, mem_gw 932 (by decide +kernel) (by decide +kernel), tyX11_ok, nmX11, rfl, rfl, rfl⟩
theorem fo_RX11_58 : FO RX11 58 10 27 true (.array .int) := ⟨RX11, TX11, 29, tyX11, rfl, (by decide +kernel), in_X11, mem_gw 933 (by decide +kernel) (by decide +kernel), tyX11_ok, nmX11, rfl, rfl, rfl⟩
theorem fo_RX11_61 : FO RX11 61 10 28 true (.array .int) := ⟨RX11, TX11, 29, tyX11, rfl, (by decide +kernel), in_X11, mem_gw 934 (by decide +kernel) (by decide +kernel), tyX11_ok, nmX11, rfl, rfl, rfl⟩
theorem k_RX7_49 : Cond.constant RX7 49 (-1640531535) ∈ gw := mem_gw 772 (by decide +kernel) (by decide +kernel)
theorem k_RX10_282 : Cond.constant RX10 282 (-1000000) ∈ gw := mem_gw 889 (by decide +kernel) (by decide +kernel)
theorem k_RX11_68 : Cond.constantLong RX11 68 (2) ∈ gw := mem_gw 1009 (by decide +kernel) (by decide +kernel)
theorem k_RX11_70 : Cond.constantLong RX11 70 (3) ∈ gw := mem_gw 1020 (by decide +kernel) (by decide +kernel)
theorem k_RX11_79 : Cond.constantLong RX11 79 (-99) ∈ gw := mem_gw 1021 (by decide +kernel) (by decide +kernel)
theorem k_RX11_81 : Cond.constantLong RX11 81 (99) ∈ gw := mem_gw 1022 (by decide +kernel) (by decide +kernel)
theorem k_RX11_83 : Cond.constantLong RX11 83 (127) ∈ gw := mem_gw 1031 (by decide +kernel) (by decide +kernel)
theorem k_RX11_103 : Cond.constantLong RX11 103 (97) ∈ gw := mem_gw 1056 (by decide +kernel) (by decide +kernel)
theorem k_RX11_105 : Cond.constantLong RX11 105 (122) ∈ gw := mem_gw 1057 (by decide +kernel) (by decide +kernel)
theorem k_RX11_115 : Cond.constantLong RX11 115 (48) ∈ gw := mem_gw 1074 (by decide +kernel) (by decide +kernel)
theorem k_RX11_117 : Cond.constantLong RX11 117 (57) ∈ gw := mem_gw 1075 (by decide +kernel) (by decide +kernel)
theorem k_RX11_126 : Cond.constantLong RX11 126 (5) ∈ gw := mem_gw 1076 (by decide +kernel) (by decide +kernel)
theorem k_RX11_128 : Cond.constantLong RX11 128 (7) ∈ gw := mem_gw 1077 (by decide +kernel) (by decide +kernel)
theorem k_RX11_197 : Cond.constantLong RX11 197 (40) ∈ gw := mem_gw 1145 (by decide +kernel) (by decide +kernel)
theorem k_RX11_213 : Cond.constantLong RX11 213 (4) ∈ gw := mem_gw 1181 (by decide +kernel) (by decide +kernel)
theorem k_RX11_250 : Cond.constantLong RX11 250 (8) ∈ gw := mem_gw 1206 (by decide +kernel) (by decide +kernel)
theorem k_RX11_288 : Cond.constant RX11 288 (-1000000) ∈ gw := mem_gw 1310 (by decide +kernel) (by decide +kernel)
end
section
theorem dJ0_charAt_5068e_0 : decode cJ0_charAt_5068e 0 = .ok (.aload_n 0, 1) := by decide +kernel
theorem dJ0_charAt_5068e_1 : decode cJ0_charAt_5068e 1 = .ok (.invokevirtual 492, 3) := by decide +kernel
theorem dJ0_charAt_5068e_4 : decode cJ0_charAt_5068e 4 = .ok (.ifCond .eq 12, 3) := by decide +kernel
theorem dJ0_charAt_5068e_7 : decode cJ0_charAt_5068e 7 = .ok (.aload_n 0, 1) := by decide +kernel
theorem dJ0_charAt_5068e_8 : decode cJ0_charAt_5068e 8 = .ok (.getfield 9, 3) := by decide +kernel
theorem dJ0_charAt_5068e_11 : decode cJ0_charAt_5068e 11 = .ok (.iload_n 1, 1) := by decide +kernel
theorem dJ0_charAt_5068e_12 : decode cJ0_charAt_5068e 12 = .ok (.invokestatic 495, 3) := by decide +kernel
theorem dJ0_charAt_5068e_15 : decode cJ0_charAt_5068e 15 = .ok (.ireturn, 1) := by decide +kernel
theorem dJ0_charAt_5068e_16 : decode cJ0_charAt_5068e 16 = .ok (.aload_n 0, 1) := by decide +kernel
theorem dJ0_charAt_5068e_17 : decode cJ0_charAt_5068e 17 = .ok (.getfield 9, 3) := by decide +kernel
theorem dJ0_charAt_5068e_20 : decode cJ0_charAt_5068e 20 = .ok (.iload_n 1, 1) := by decide +kernel
theorem dJ0_charAt_5068e_21 : decode cJ0_charAt_5068e 21 = .ok (.invokestatic 498, 3) := by decide +kernel
theorem dJ0_charAt_5068e_24 : decode cJ0_charAt_5068e 24 = .ok (.ireturn, 1) := by decide +kernel
theorem dJ0_checkIndex_df160_0 : decode cJ0_checkIndex_df160 0 = .ok (.iload_n 0, 1) := by decide +kernel
theorem dJ0_checkIndex_df160_1 : decode cJ0_checkIndex_df160 1 = .ok (.iload_n 1, 1) := by decide +kernel
theorem dJ0_checkIndex_df160_2 : decode cJ0_checkIndex_df160 2 = .ok (.getstatic 1053, 3) := by decide +kernel
theorem dJ0_checkIndex_df160_5 : decode cJ0_checkIndex_df160 5 = .ok (.invokestatic 1059, 3) := by decide +kernel
theorem dJ0_checkIndex_df160_8 : decode cJ0_checkIndex_df160 8 = .ok (.pop, 1) := by decide +kernel
theorem dJ0_checkIndex_df160_9 : decode cJ0_checkIndex_df160 9 = .ok (.return_, 1) := by decide +kernel
theorem dJ0_coder_7d493_0 : decode cJ0_coder_7d493 0 = .ok (.getstatic 38, 3) := by decide +kernel
theorem dJ0_coder_7d493_3 : decode cJ0_coder_7d493 3 = .ok (.ifCond .eq 10, 3) := by decide +kernel
theorem dJ0_coder_7d493_6 : decode cJ0_coder_7d493 6 = .ok (.aload_n 0, 1) := by decide +kernel
theorem dJ0_coder_7d493_7 : decode cJ0_coder_7d493 7 = .ok (.getfield 15, 3) := by decide +kernel
theorem dJ0_coder_7d493_10 : decode cJ0_coder_7d493 10 = .ok (.goto 4, 3) := by decide +kernel
theorem dJ0_coder_7d493_13 : decode cJ0_coder_7d493 13 = .ok (.iconst 1, 1) := by decide +kernel
theorem dJ0_coder_7d493_14 : decode cJ0_coder_7d493 14 = .ok (.ireturn, 1) := by decide +kernel
theorem dJ0_isLatin1_aae02_0 : decode cJ0_isLatin1_aae02 0 = .ok (.getstatic 38, 3) := by decide +kernel
theorem dJ0_isLatin1_aae02_3 : decode cJ0_isLatin1_aae02 3 = .ok (.ifCond .eq 14, 3) := by decide +kernel
theorem dJ0_isLatin1_aae02_6 : decode cJ0_isLatin1_aae02 6 = .ok (.aload_n 0, 1) := by decide +kernel
theorem dJ0_isLatin1_aae02_7 : decode cJ0_isLatin1_aae02 7 = .ok (.getfield 15, 3) := by decide +kernel
theorem dJ0_isLatin1_aae02_10 : decode cJ0_isLatin1_aae02 10 = .ok (.ifCond .ne 7, 3) := by decide +kernel
theorem dJ0_isLatin1_aae02_13 : decode cJ0_isLatin1_aae02 13 = .ok (.iconst 1, 1) := by decide +kernel
theorem dJ0_isLatin1_aae02_14 : decode cJ0_isLatin1_aae02 14 = .ok (.goto 4, 3) := by decide +kernel
theorem dJ0_isLatin1_aae02_17 : decode cJ0_isLatin1_aae02 17 = .ok (.iconst 0, 1) := by decide +kernel
theorem dJ0_isLatin1_aae02_18 : decode cJ0_isLatin1_aae02 18 = .ok (.ireturn, 1) := by decide +kernel
theorem dJ0_length_8abf5_0 : decode cJ0_length_8abf5 0 = .ok (.aload_n 0, 1) := by decide +kernel
theorem dJ0_length_8abf5_1 : decode cJ0_length_8abf5 1 = .ok (.getfield 9, 3) := by decide +kernel
theorem dJ0_length_8abf5_4 : decode cJ0_length_8abf5 4 = .ok (.arraylength, 1) := by decide +kernel
theorem dJ0_length_8abf5_5 : decode cJ0_length_8abf5 5 = .ok (.aload_n 0, 1) := by decide +kernel
theorem dJ0_length_8abf5_6 : decode cJ0_length_8abf5 6 = .ok (.invokevirtual 335, 3) := by decide +kernel
theorem dJ0_length_8abf5_9 : decode cJ0_length_8abf5 9 = .ok (.ishr, 1) := by decide +kernel
theorem dJ0_length_8abf5_10 : decode cJ0_length_8abf5 10 = .ok (.ireturn, 1) := by decide +kernel
theorem dJ1_charAt_3b067_0 : decode cJ1_charAt_3b067 0 = .ok (.iload_n 1, 1) := by decide +kernel
theorem dJ1_charAt_3b067_1 : decode cJ1_charAt_3b067 1 = .ok (.aload_n 0, 1) := by decide +kernel
theorem dJ1_charAt_3b067_2 : decode cJ1_charAt_3b067 2 = .ok (.arraylength, 1) := by decide +kernel
theorem dJ1_charAt_3b067_3 : decode cJ1_charAt_3b067 3 = .ok (.invokestatic 9, 3) := by decide +kernel
theorem dJ1_charAt_3b067_6 : decode cJ1_charAt_3b067 6 = .ok (.aload_n 0, 1) := by decide +kernel
theorem dJ1_charAt_3b067_7 : decode cJ1_charAt_3b067 7 = .ok (.iload_n 1, 1) := by decide +kernel
theorem dJ1_charAt_3b067_8 : decode cJ1_charAt_3b067 8 = .ok (.baload, 1) := by decide +kernel
theorem dJ1_charAt_3b067_9 : decode cJ1_charAt_3b067 9 = .ok (.sipush 255, 3) := by decide +kernel
theorem dJ1_charAt_3b067_12 : decode cJ1_charAt_3b067 12 = .ok (.iand, 1) := by decide +kernel
theorem dJ1_charAt_3b067_13 : decode cJ1_charAt_3b067 13 = .ok (.i2c, 1) := by decide +kernel
theorem dJ1_charAt_3b067_14 : decode cJ1_charAt_3b067 14 = .ok (.ireturn, 1) := by decide +kernel
theorem dJ3_checkIndex_8e157_0 : decode cJ3_checkIndex_8e157 0 = .ok (.iload_n 0, 1) := by decide +kernel
theorem dJ3_checkIndex_8e157_1 : decode cJ3_checkIndex_8e157 1 = .ok (.ifCond .lt 8, 3) := by decide +kernel
theorem dJ3_checkIndex_8e157_4 : decode cJ3_checkIndex_8e157 4 = .ok (.iload_n 0, 1) := by decide +kernel
theorem dJ3_checkIndex_8e157_5 : decode cJ3_checkIndex_8e157 5 = .ok (.iload_n 1, 1) := by decide +kernel
theorem dJ3_checkIndex_8e157_6 : decode cJ3_checkIndex_8e157 6 = .ok (.if_icmp .lt 10, 3) := by decide +kernel
theorem dJ3_checkIndex_8e157_9 : decode cJ3_checkIndex_8e157 9 = .ok (.aload_n 2, 1) := by decide +kernel
theorem dJ3_checkIndex_8e157_10 : decode cJ3_checkIndex_8e157 10 = .ok (.iload_n 0, 1) := by decide +kernel
theorem dJ3_checkIndex_8e157_11 : decode cJ3_checkIndex_8e157 11 = .ok (.iload_n 1, 1) := by decide +kernel
theorem dJ3_checkIndex_8e157_12 : decode cJ3_checkIndex_8e157 12 = .ok (.invokestatic 95, 3) := by decide +kernel
theorem dJ3_checkIndex_8e157_15 : decode cJ3_checkIndex_8e157 15 = .ok (.athrow, 1) := by decide +kernel
theorem dJ3_checkIndex_8e157_16 : decode cJ3_checkIndex_8e157 16 = .ok (.iload_n 0, 1) := by decide +kernel
theorem dJ3_checkIndex_8e157_17 : decode cJ3_checkIndex_8e157 17 = .ok (.ireturn, 1) := by decide +kernel
theorem dJ7_fill_53178_0 : decode cJ7_fill_53178 0 = .ok (.iconst 0, 1) := by decide +kernel
theorem dJ7_fill_53178_1 : decode cJ7_fill_53178 1 = .ok (.istore_n 2, 1) := by decide +kernel
theorem dJ7_fill_53178_2 : decode cJ7_fill_53178 2 = .ok (.aload_n 0, 1) := by decide +kernel
theorem dJ7_fill_53178_3 : decode cJ7_fill_53178 3 = .ok (.arraylength, 1) := by decide +kernel
theorem dJ7_fill_53178_4 : decode cJ7_fill_53178 4 = .ok (.istore_n 3, 1) := by decide +kernel
theorem dJ7_fill_53178_5 : decode cJ7_fill_53178 5 = .ok (.iload_n 2, 1) := by decide +kernel
theorem dJ7_fill_53178_6 : decode cJ7_fill_53178 6 = .ok (.iload_n 3, 1) := by decide +kernel
theorem dJ7_fill_53178_7 : decode cJ7_fill_53178 7 = .ok (.if_icmp .ge 13, 3) := by decide +kernel
theorem dJ7_fill_53178_10 : decode cJ7_fill_53178 10 = .ok (.aload_n 0, 1) := by decide +kernel
theorem dJ7_fill_53178_11 : decode cJ7_fill_53178 11 = .ok (.iload_n 2, 1) := by decide +kernel
theorem dJ7_fill_53178_12 : decode cJ7_fill_53178 12 = .ok (.iload_n 1, 1) := by decide +kernel
theorem dJ7_fill_53178_13 : decode cJ7_fill_53178 13 = .ok (.iastore, 1) := by decide +kernel
theorem dJ7_fill_53178_14 : decode cJ7_fill_53178 14 = .ok (.iinc 2 1, 3) := by decide +kernel
theorem dJ7_fill_53178_17 : decode cJ7_fill_53178 17 = .ok (.goto (-12), 3) := by decide +kernel
theorem dJ7_fill_53178_20 : decode cJ7_fill_53178 20 = .ok (.return_, 1) := by decide +kernel
end
section
theorem dX0_allSo_0 : decode cX0_allSo 0 = .ok (.iconst 0, 1) := by decide +kernel
theorem dX0_allSo_1 : decode cX0_allSo 1 = .ok (.istore_n 2, 1) := by decide +kernel
theorem dX0_allSo_2 : decode cX0_allSo 2 = .ok (.iload_n 2, 1) := by decide +kernel
theorem dX0_allSo_3 : decode cX0_allSo 3 = .ok (.aload_n 0, 1) := by decide +kernel
theorem dX0_allSo_4 : decode cX0_allSo 4 = .ok (.getfield 9, 3) := by decide +kernel
theorem dX0_allSo_7 : decode cX0_allSo 7 = .ok (.if_icmp .ge 37, 3) := by decide +kernel
theorem dX0_allSo_10 : decode cX0_allSo 10 = .ok (.aload_n 0, 1) := by decide +kernel
theorem dX0_allSo_11 : decode cX0_allSo 11 = .ok (.getfield 19, 3) := by decide +kernel
theorem dX0_allSo_14 : decode cX0_allSo 14 = .ok (.iload_n 2, 1) := by decide +kernel
theorem dX0_allSo_15 : decode cX0_allSo 15 = .ok (.iaload, 1) := by decide +kernel
theorem dX0_allSo_16 : decode cX0_allSo 16 = .ok (.aload_n 1, 1) := by decide +kernel
theorem dX0_allSo_17 : decode cX0_allSo 17 = .ok (.aload_n 0, 1) := by decide +kernel
theorem dX0_allSo_18 : decode cX0_allSo 18 = .ok (.getfield 15, 3) := by decide +kernel
theorem dX0_allSo_21 : decode cX0_allSo 21 = .ok (.iload_n 2, 1) := by decide +kernel
theorem dX0_allSo_22 : decode cX0_allSo 22 = .ok (.iaload, 1) := by decide +kernel
theorem dX0_allSo_23 : decode cX0_allSo 23 = .ok (.iaload, 1) := by decide +kernel
theorem dX0_allSo_24 : decode cX0_allSo 24 = .ok (.aload_n 0, 1) := by decide +kernel
theorem dX0_allSo_25 : decode cX0_allSo 25 = .ok (.getfield 22, 3) := by decide +kernel
theorem dX0_allSo_28 : decode cX0_allSo 28 = .ok (.iload_n 2, 1) := by decide +kernel
theorem dX0_allSo_29 : decode cX0_allSo 29 = .ok (.iaload, 1) := by decide +kernel
theorem dX0_allSo_30 : decode cX0_allSo 30 = .ok (.invokestatic 25, 3) := by decide +kernel
theorem dX0_allSo_33 : decode cX0_allSo 33 = .ok (.ifCond .ne 5, 3) := by decide +kernel
theorem dX0_allSo_36 : decode cX0_allSo 36 = .ok (.iconst 0, 1) := by decide +kernel
theorem dX0_allSo_37 : decode cX0_allSo 37 = .ok (.ireturn, 1) := by decide +kernel
theorem dX0_allSo_38 : decode cX0_allSo 38 = .ok (.iinc 2 1, 3) := by decide +kernel
theorem dX0_allSo_41 : decode cX0_allSo 41 = .ok (.goto (-39), 3) := by decide +kernel
theorem dX0_allSo_44 : decode cX0_allSo 44 = .ok (.iconst 1, 1) := by decide +kernel
theorem dX0_allSo_45 : decode cX0_allSo 45 = .ok (.ireturn, 1) := by decide +kernel
theorem dX0_append_0 : decode cX0_append 0 = .ok (.aload_n 0, 1) := by decide +kernel
theorem dX0_append_1 : decode cX0_append 1 = .ok (.getfield 9, 3) := by decide +kernel
theorem dX0_append_4 : decode cX0_append 4 = .ok (.iconst 4, 1) := by decide +kernel
theorem dX0_append_5 : decode cX0_append 5 = .ok (.if_icmp .ge 43, 3) := by decide +kernel
theorem dX0_append_8 : decode cX0_append 8 = .ok (.aload_n 0, 1) := by decide +kernel
theorem dX0_append_9 : decode cX0_append 9 = .ok (.getfield 15, 3) := by decide +kernel
theorem dX0_append_12 : decode cX0_append 12 = .ok (.aload_n 0, 1) := by decide +kernel
theorem dX0_append_13 : decode cX0_append 13 = .ok (.getfield 9, 3) := by decide +kernel
theorem dX0_append_16 : decode cX0_append 16 = .ok (.iload_n 1, 1) := by decide +kernel
theorem dX0_append_17 : decode cX0_append 17 = .ok (.iastore, 1) := by decide +kernel
theorem dX0_append_18 : decode cX0_append 18 = .ok (.aload_n 0, 1) := by decide +kernel
theorem dX0_append_19 : decode cX0_append 19 = .ok (.getfield 19, 3) := by decide +kernel
theorem dX0_append_22 : decode cX0_append 22 = .ok (.aload_n 0, 1) := by decide +kernel
theorem dX0_append_23 : decode cX0_append 23 = .ok (.getfield 9, 3) := by decide +kernel
theorem dX0_append_26 : decode cX0_append 26 = .ok (.iload_n 2, 1) := by decide +kernel
theorem dX0_append_27 : decode cX0_append 27 = .ok (.iastore, 1) := by decide +kernel
theorem dX0_append_28 : decode cX0_append 28 = .ok (.aload_n 0, 1) := by decide +kernel
theorem dX0_append_29 : decode cX0_append 29 = .ok (.getfield 22, 3) := by decide +kernel
theorem dX0_append_32 : decode cX0_append 32 = .ok (.aload_n 0, 1) := by decide +kernel
theorem dX0_append_33 : decode cX0_append 33 = .ok (.getfield 9, 3) := by decide +kernel
theorem dX0_append_36 : decode cX0_append 36 = .ok (.iload_n 3, 1) := by decide +kernel
theorem dX0_append_37 : decode cX0_append 37 = .ok (.iastore, 1) := by decide +kernel
theorem dX0_append_38 : decode cX0_append 38 = .ok (.aload_n 0, 1) := by decide +kernel
theorem dX0_append_39 : decode cX0_append 39 = .ok (.dup, 1) := by decide +kernel
theorem dX0_append_40 : decode cX0_append 40 = .ok (.getfield 9, 3) := by decide +kernel
theorem dX0_append_43 : decode cX0_append 43 = .ok (.iconst 1, 1) := by decide +kernel
theorem dX0_append_44 : decode cX0_append 44 = .ok (.iadd, 1) := by decide +kernel
theorem dX0_append_45 : decode cX0_append 45 = .ok (.putfield 9, 3) := by decide +kernel
theorem dX0_append_48 : decode cX0_append 48 = .ok (.return_, 1) := by decide +kernel
theorem dX0_init_0 : decode cX0_init 0 = .ok (.aload_n 0, 1) := by decide +kernel
theorem dX0_init_1 : decode cX0_init 1 = .ok (.invokespecial 3, 3) := by decide +kernel
theorem dX0_init_4 : decode cX0_init 4 = .ok (.aload_n 0, 1) := by decide +kernel
theorem dX0_init_5 : decode cX0_init 5 = .ok (.iconst 0, 1) := by decide +kernel
theorem dX0_init_6 : decode cX0_init 6 = .ok (.putfield 9, 3) := by decide +kernel
theorem dX0_init_9 : decode cX0_init 9 = .ok (.aload_n 0, 1) := by decide +kernel
theorem dX0_init_10 : decode cX0_init 10 = .ok (.iconst 4, 1) := by decide +kernel
theorem dX0_init_11 : decode cX0_init 11 = .ok (.newarray .int, 2) := by decide +kernel
theorem dX0_init_13 : decode cX0_init 13 = .ok (.putfield 15, 3) := by decide +kernel
theorem dX0_init_16 : decode cX0_init 16 = .ok (.aload_n 0, 1) := by decide +kernel
theorem dX0_init_17 : decode cX0_init 17 = .ok (.iconst 4, 1) := by decide +kernel
theorem dX0_init_18 : decode cX0_init 18 = .ok (.newarray .int, 2) := by decide +kernel
theorem dX0_init_20 : decode cX0_init 20 = .ok (.putfield 19, 3) := by decide +kernel
theorem dX0_init_23 : decode cX0_init 23 = .ok (.aload_n 0, 1) := by decide +kernel
theorem dX0_init_24 : decode cX0_init 24 = .ok (.iconst 4, 1) := by decide +kernel
theorem dX0_init_25 : decode cX0_init 25 = .ok (.newarray .int, 2) := by decide +kernel
theorem dX0_init_27 : decode cX0_init 27 = .ok (.putfield 22, 3) := by decide +kernel
theorem dX0_init_30 : decode cX0_init 30 = .ok (.return_, 1) := by decide +kernel
theorem dX0_isSo_0 : decode cX0_isSo 0 = .ok (.iload_n 0, 1) := by decide +kernel
theorem dX0_isSo_1 : decode cX0_isSo 1 = .ok (.tableswitch 60 0 2 #[27, 38, 49], 27) := by decide +kernel
theorem dX0_isSo_28 : decode cX0_isSo 28 = .ok (.iload_n 1, 1) := by decide +kernel
theorem dX0_isSo_29 : decode cX0_isSo 29 = .ok (.iload_n 2, 1) := by decide +kernel
theorem dX0_isSo_30 : decode cX0_isSo 30 = .ok (.if_icmp .ge 7, 3) := by decide +kernel
theorem dX0_isSo_33 : decode cX0_isSo 33 = .ok (.iconst 1, 1) := by decide +kernel
theorem dX0_isSo_34 : decode cX0_isSo 34 = .ok (.goto 4, 3) := by decide +kernel
theorem dX0_isSo_37 : decode cX0_isSo 37 = .ok (.iconst 0, 1) := by decide +kernel
theorem dX0_isSo_38 : decode cX0_isSo 38 = .ok (.ireturn, 1) := by decide +kernel
theorem dX0_isSo_39 : decode cX0_isSo 39 = .ok (.iload_n 1, 1) := by decide +kernel
theorem dX0_isSo_40 : decode cX0_isSo 40 = .ok (.iload_n 2, 1) := by decide +kernel
theorem dX0_isSo_41 : decode cX0_isSo 41 = .ok (.if_icmp .ne 7, 3) := by decide +kernel
theorem dX0_isSo_44 : decode cX0_isSo 44 = .ok (.iconst 1, 1) := by decide +kernel
theorem dX0_isSo_45 : decode cX0_isSo 45 = .ok (.goto 4, 3) := by decide +kernel
theorem dX0_isSo_48 : decode cX0_isSo 48 = .ok (.iconst 0, 1) := by decide +kernel
theorem dX0_isSo_49 : decode cX0_isSo 49 = .ok (.ireturn, 1) := by decide +kernel
theorem dX0_isSo_50 : decode cX0_isSo 50 = .ok (.iload_n 1, 1) := by decide +kernel
theorem dX0_isSo_51 : decode cX0_isSo 51 = .ok (.iload_n 2, 1) := by decide +kernel
theorem dX0_isSo_52 : decode cX0_isSo 52 = .ok (.if_icmp .le 7, 3) := by decide +kernel
theorem dX0_isSo_55 : decode cX0_isSo 55 = .ok (.iconst 1, 1) := by decide +kernel
theorem dX0_isSo_56 : decode cX0_isSo 56 = .ok (.goto 4, 3) := by decide +kernel
theorem dX0_isSo_59 : decode cX0_isSo 59 = .ok (.iconst 0, 1) := by decide +kernel
theorem dX0_isSo_60 : decode cX0_isSo 60 = .ok (.ireturn, 1) := by decide +kernel
theorem dX0_isSo_61 : decode cX0_isSo 61 = .ok (.iload_n 1, 1) := by decide +kernel
theorem dX0_isSo_62 : decode cX0_isSo 62 = .ok (.iload_n 2, 1) := by decide +kernel
theorem dX0_isSo_63 : decode cX0_isSo 63 = .ok (.if_icmp .eq 7, 3) := by decide +kernel
theorem dX0_isSo_66 : decode cX0_isSo 66 = .ok (.iconst 1, 1) := by decide +kernel
theorem dX0_isSo_67 : decode cX0_isSo 67 = .ok (.goto 4, 3) := by decide +kernel
theorem dX0_isSo_70 : decode cX0_isSo 70 = .ok (.iconst 0, 1) := by decide +kernel
theorem dX0_isSo_71 : decode cX0_isSo 71 = .ok (.ireturn, 1) := by decide +kernel
theorem dX10_are_0 : decode cX10_are 0 = .ok (.iload_n 1, 1) := by decide +kernel
theorem dX10_are_1 : decode cX10_are 1 = .ok (.ifCond .lt 8, 3) := by decide +kernel
theorem dX10_are_4 : decode cX10_are 4 = .ok (.iload_n 1, 1) := by decide +kernel
theorem dX10_are_5 : decode cX10_are 5 = .ok (.iconst 4, 1) := by decide +kernel
theorem dX10_are_6 : decode cX10_are 6 = .ok (.if_icmp .le 7, 3) := by decide +kernel
theorem dX10_are_9 : decode cX10_are 9 = .ok (.iconst (-1), 1) := by decide +kernel
theorem dX10_are_10 : decode cX10_are 10 = .ok (.goto 11, 3) := by decide +kernel
theorem dX10_are_13 : decode cX10_are 13 = .ok (.aload_n 0, 1) := by decide +kernel
theorem dX10_are_14 : decode cX10_are 14 = .ok (.getfield 10, 3) := by decide +kernel
theorem dX10_are_17 : decode cX10_are 17 = .ok (.iload_n 1, 1) := by decide +kernel
theorem dX10_are_18 : decode cX10_are 18 = .ok (.invokevirtual 198, 3) := by decide +kernel
theorem dX10_are_21 : decode cX10_are 21 = .ok (.ireturn, 1) := by decide +kernel
theorem dX10_asNumber_0 : decode cX10_asNumber 0 = .ok (.iload_n 0, 1) := by decide +kernel
theorem dX10_asNumber_1 : decode cX10_asNumber 1 = .ok (.ifCond .eq 7, 3) := by decide +kernel
theorem dX10_asNumber_4 : decode cX10_asNumber 4 = .ok (.iconst 1, 1) := by decide +kernel
theorem dX10_asNumber_5 : decode cX10_asNumber 5 = .ok (.goto 4, 3) := by decide +kernel
theorem dX10_asNumber_8 : decode cX10_asNumber 8 = .ok (.iconst 0, 1) := by decide +kernel
theorem dX10_asNumber_9 : decode cX10_asNumber 9 = .ok (.ireturn, 1) := by decide +kernel
theorem dX10_back_0 : decode cX10_back 0 = .ok (.aload_n 0, 1) := by decide +kernel
theorem dX10_back_1 : decode cX10_back 1 = .ok (.getfield 19, 3) := by decide +kernel
theorem dX10_back_4 : decode cX10_back 4 = .ok (.ifCond .ne 6, 3) := by decide +kernel
theorem dX10_back_7 : decode cX10_back 7 = .ok (.bipush (-3), 2) := by decide +kernel
theorem dX10_back_9 : decode cX10_back 9 = .ok (.ireturn, 1) := by decide +kernel
theorem dX10_back_10 : decode cX10_back 10 = .ok (.aload_n 0, 1) := by decide +kernel
theorem dX10_back_11 : decode cX10_back 11 = .ok (.getfield 52, 3) := by decide +kernel
theorem dX10_back_14 : decode cX10_back 14 = .ok (.invokevirtual 67, 3) := by decide +kernel
theorem dX10_back_17 : decode cX10_back 17 = .ok (.aload_n 0, 1) := by decide +kernel
theorem dX10_back_18 : decode cX10_back 18 = .ok (.getfield 10, 3) := by decide +kernel
theorem dX10_back_21 : decode cX10_back 21 = .ok (.aload_n 0, 1) := by decide +kernel
theorem dX10_back_22 : decode cX10_back 22 = .ok (.getfield 16, 3) := by decide +kernel
theorem dX10_back_25 : decode cX10_back 25 = .ok (.invokevirtual 283, 3) := by decide +kernel
theorem dX10_back_28 : decode cX10_back 28 = .ok (.aload_n 0, 1) := by decide +kernel
theorem dX10_back_29 : decode cX10_back 29 = .ok (.getfield 10, 3) := by decide +kernel
theorem dX10_back_32 : decode cX10_back 32 = .ok (.getfield 63, 3) := by decide +kernel
theorem dX10_back_35 : decode cX10_back 35 = .ok (.ireturn, 1) := by decide +kernel
theorem dX10_cause_0 : decode cX10_cause 0 = .ok (.iload_n 1, 1) := by decide +kernel
theorem dX10_cause_1 : decode cX10_cause 1 = .ok (.ifCond .lt 12, 3) := by decide +kernel
theorem dX10_cause_4 : decode cX10_cause 4 = .ok (.iload_n 2, 1) := by decide +kernel
theorem dX10_cause_5 : decode cX10_cause 5 = .ok (.ifCond .lt 8, 3) := by decide +kernel
theorem dX10_cause_8 : decode cX10_cause 8 = .ok (.iload_n 2, 1) := by decide +kernel
theorem dX10_cause_9 : decode cX10_cause 9 = .ok (.iconst 1, 1) := by decide +kernel
theorem dX10_cause_10 : decode cX10_cause 10 = .ok (.if_icmp .le 7, 3) := by decide +kernel
theorem dX10_cause_13 : decode cX10_cause 13 = .ok (.iconst (-1), 1) := by decide +kernel
theorem dX10_cause_14 : decode cX10_cause 14 = .ok (.goto 12, 3) := by decide +kernel
theorem dX10_cause_17 : decode cX10_cause 17 = .ok (.aload_n 0, 1) := by decide +kernel
theorem dX10_cause_18 : decode cX10_cause 18 = .ok (.getfield 38, 3) := by decide +kernel
theorem dX10_cause_21 : decode cX10_cause 21 = .ok (.iload_n 1, 1) := by decide +kernel
theorem dX10_cause_22 : decode cX10_cause 22 = .ok (.iload_n 2, 1) := by decide +kernel
theorem dX10_cause_23 : decode cX10_cause 23 = .ok (.invokevirtual 212, 3) := by decide +kernel
theorem dX10_cause_26 : decode cX10_cause 26 = .ok (.ireturn, 1) := by decide +kernel
theorem dX10_cell_0 : decode cX10_cell 0 = .ok (.iload_n 1, 1) := by decide +kernel
theorem dX10_cell_1 : decode cX10_cell 1 = .ok (.invokestatic 92, 3) := by decide +kernel
theorem dX10_cell_4 : decode cX10_cell 4 = .ok (.ifCond .eq 15, 3) := by decide +kernel
theorem dX10_cell_7 : decode cX10_cell 7 = .ok (.aload_n 0, 1) := by decide +kernel
theorem dX10_cell_8 : decode cX10_cell 8 = .ok (.getfield 10, 3) := by decide +kernel
theorem dX10_cell_11 : decode cX10_cell 11 = .ok (.getfield 98, 3) := by decide +kernel
theorem dX10_cell_14 : decode cX10_cell 14 = .ok (.iload_n 1, 1) := by decide +kernel
theorem dX10_cell_15 : decode cX10_cell 15 = .ok (.iaload, 1) := by decide +kernel
theorem dX10_cell_16 : decode cX10_cell 16 = .ok (.goto 5, 3) := by decide +kernel
theorem dX10_cell_19 : decode cX10_cell 19 = .ok (.bipush (-100), 2) := by decide +kernel
theorem dX10_cell_21 : decode cX10_cell 21 = .ok (.ireturn, 1) := by decide +kernel
theorem dX10_clear_0 : decode cX10_clear 0 = .ok (.aload_n 0, 1) := by decide +kernel
theorem dX10_clear_1 : decode cX10_clear 1 = .ok (.getfield 34, 3) := by decide +kernel
theorem dX10_clear_4 : decode cX10_clear 4 = .ok (.getfield 102, 3) := by decide +kernel
theorem dX10_clear_7 : decode cX10_clear 7 = .ok (.istore_n 1, 1) := by decide +kernel
theorem dX10_clear_8 : decode cX10_clear 8 = .ok (.aload_n 0, 1) := by decide +kernel
theorem dX10_clear_9 : decode cX10_clear 9 = .ok (.getfield 34, 3) := by decide +kernel
theorem dX10_clear_12 : decode cX10_clear 12 = .ok (.iconst 0, 1) := by decide +kernel
theorem dX10_clear_13 : decode cX10_clear 13 = .ok (.putfield 102, 3) := by decide +kernel
theorem dX10_clear_16 : decode cX10_clear 16 = .ok (.iload_n 1, 1) := by decide +kernel
theorem dX10_clear_17 : decode cX10_clear 17 = .ok (.ireturn, 1) := by decide +kernel
theorem dX10_condition_0 : decode cX10_condition 0 = .ok (.iload_n 1, 1) := by decide +kernel
theorem dX10_condition_1 : decode cX10_condition 1 = .ok (.iconst (-1), 1) := by decide +kernel
theorem dX10_condition_2 : decode cX10_condition 2 = .ok (.if_icmp .ne 20, 3) := by decide +kernel
theorem dX10_condition_5 : decode cX10_condition 5 = .ok (.aload_n 0, 1) := by decide +kernel
theorem dX10_condition_6 : decode cX10_condition 6 = .ok (.getfield 52, 3) := by decide +kernel
theorem dX10_condition_9 : decode cX10_condition 9 = .ok (.invokevirtual 67, 3) := by decide +kernel
theorem dX10_condition_12 : decode cX10_condition 12 = .ok (.aload_n 0, 1) := by decide +kernel
theorem dX10_condition_13 : decode cX10_condition 13 = .ok (.getfield 45, 3) := by decide +kernel
theorem dX10_condition_16 : decode cX10_condition 16 = .ok (.iconst 0, 1) := by decide +kernel
theorem dX10_condition_17 : decode cX10_condition 17 = .ok (.putfield 201, 3) := by decide +kernel
theorem dX10_condition_20 : decode cX10_condition 20 = .ok (.iconst 0, 1) := by decide +kernel
theorem dX10_condition_21 : decode cX10_condition 21 = .ok (.ireturn, 1) := by decide +kernel
theorem dX10_condition_22 : decode cX10_condition 22 = .ok (.iload_n 1, 1) := by decide +kernel
theorem dX10_condition_23 : decode cX10_condition 23 = .ok (.invokestatic 92, 3) := by decide +kernel
theorem dX10_condition_26 : decode cX10_condition 26 = .ok (.ifCond .eq 12, 3) := by decide +kernel
theorem dX10_condition_29 : decode cX10_condition 29 = .ok (.iload_n 2, 1) := by decide +kernel
theorem dX10_condition_30 : decode cX10_condition 30 = .ok (.ifCond .lt 8, 3) := by decide +kernel
theorem dX10_condition_33 : decode cX10_condition 33 = .ok (.iload_n 2, 1) := by decide +kernel
theorem dX10_condition_34 : decode cX10_condition 34 = .ok (.iconst 4, 1) := by decide +kernel
theorem dX10_condition_35 : decode cX10_condition 35 = .ok (.if_icmp .lt 5, 3) := by decide +kernel
theorem dX10_condition_38 : decode cX10_condition 38 = .ok (.iconst (-1), 1) := by decide +kernel
theorem dX10_condition_39 : decode cX10_condition 39 = .ok (.ireturn, 1) := by decide +kernel
theorem dX10_condition_40 : decode cX10_condition 40 = .ok (.iload_n 3, 1) := by decide +kernel
theorem dX10_condition_41 : decode cX10_condition 41 = .ok (.invokestatic 95, 3) := by decide +kernel
theorem dX10_condition_44 : decode cX10_condition 44 = .ok (.ifCond .ne 6, 3) := by decide +kernel
theorem dX10_condition_47 : decode cX10_condition 47 = .ok (.bipush (-2), 2) := by decide +kernel
theorem dX10_condition_49 : decode cX10_condition 49 = .ok (.ireturn, 1) := by decide +kernel
theorem dX10_condition_50 : decode cX10_condition 50 = .ok (.aload_n 0, 1) := by decide +kernel
theorem dX10_condition_51 : decode cX10_condition 51 = .ok (.getfield 45, 3) := by decide +kernel
theorem dX10_condition_54 : decode cX10_condition 54 = .ok (.getfield 201, 3) := by decide +kernel
theorem dX10_condition_57 : decode cX10_condition 57 = .ok (.iconst 4, 1) := by decide +kernel
theorem dX10_condition_58 : decode cX10_condition 58 = .ok (.if_icmp .lt 6, 3) := by decide +kernel
theorem dX10_condition_61 : decode cX10_condition 61 = .ok (.bipush (-4), 2) := by decide +kernel
theorem dX10_condition_63 : decode cX10_condition 63 = .ok (.ireturn, 1) := by decide +kernel
theorem dX10_condition_64 : decode cX10_condition 64 = .ok (.aload_n 0, 1) := by decide +kernel
theorem dX10_condition_65 : decode cX10_condition 65 = .ok (.getfield 52, 3) := by decide +kernel
theorem dX10_condition_68 : decode cX10_condition 68 = .ok (.invokevirtual 67, 3) := by decide +kernel
theorem dX10_condition_71 : decode cX10_condition 71 = .ok (.aload_n 0, 1) := by decide +kernel
theorem dX10_condition_72 : decode cX10_condition 72 = .ok (.getfield 45, 3) := by decide +kernel
theorem dX10_condition_75 : decode cX10_condition 75 = .ok (.iload_n 1, 1) := by decide +kernel
theorem dX10_condition_76 : decode cX10_condition 76 = .ok (.iload_n 2, 1) := by decide +kernel
theorem dX10_condition_77 : decode cX10_condition 77 = .ok (.iload_n 3, 1) := by decide +kernel
theorem dX10_condition_78 : decode cX10_condition 78 = .ok (.invokevirtual 265, 3) := by decide +kernel
theorem dX10_condition_81 : decode cX10_condition 81 = .ok (.aload_n 0, 1) := by decide +kernel
theorem dX10_condition_82 : decode cX10_condition 82 = .ok (.getfield 45, 3) := by decide +kernel
theorem dX10_condition_85 : decode cX10_condition 85 = .ok (.getfield 201, 3) := by decide +kernel
theorem dX10_condition_88 : decode cX10_condition 88 = .ok (.ireturn, 1) := by decide +kernel
theorem dX10_feed_0 : decode cX10_feed 0 = .ok (.iload_n 1, 1) := by decide +kernel
theorem dX10_feed_1 : decode cX10_feed 1 = .ok (.iconst 1, 1) := by decide +kernel
theorem dX10_feed_2 : decode cX10_feed 2 = .ok (.if_icmp .lt 9, 3) := by decide +kernel
theorem dX10_feed_5 : decode cX10_feed 5 = .ok (.iload_n 1, 1) := by decide +kernel
theorem dX10_feed_6 : decode cX10_feed 6 = .ok (.bipush 127, 2) := by decide +kernel
theorem dX10_feed_8 : decode cX10_feed 8 = .ok (.if_icmp .le 6, 3) := by decide +kernel
theorem dX10_feed_11 : decode cX10_feed 11 = .ok (.bipush (-2), 2) := by decide +kernel
theorem dX10_feed_13 : decode cX10_feed 13 = .ok (.ireturn, 1) := by decide +kernel
theorem dX10_feed_14 : decode cX10_feed 14 = .ok (.aload_n 0, 1) := by decide +kernel
theorem dX10_feed_15 : decode cX10_feed 15 = .ok (.getfield 34, 3) := by decide +kernel
theorem dX10_feed_18 : decode cX10_feed 18 = .ok (.getfield 102, 3) := by decide +kernel
theorem dX10_feed_21 : decode cX10_feed 21 = .ok (.bipush 120, 2) := by decide +kernel
theorem dX10_feed_23 : decode cX10_feed 23 = .ok (.if_icmp .lt 6, 3) := by decide +kernel
theorem dX10_feed_26 : decode cX10_feed 26 = .ok (.bipush (-4), 2) := by decide +kernel
theorem dX10_feed_28 : decode cX10_feed 28 = .ok (.ireturn, 1) := by decide +kernel
theorem dX10_feed_29 : decode cX10_feed 29 = .ok (.aload_n 0, 1) := by decide +kernel
theorem dX10_feed_30 : decode cX10_feed 30 = .ok (.getfield 34, 3) := by decide +kernel
theorem dX10_feed_33 : decode cX10_feed 33 = .ok (.iload_n 1, 1) := by decide +kernel
theorem dX10_feed_34 : decode cX10_feed 34 = .ok (.invokevirtual 107, 3) := by decide +kernel
theorem dX10_feed_37 : decode cX10_feed 37 = .ok (.aload_n 0, 1) := by decide +kernel
theorem dX10_feed_38 : decode cX10_feed 38 = .ok (.getfield 34, 3) := by decide +kernel
theorem dX10_feed_41 : decode cX10_feed 41 = .ok (.getfield 102, 3) := by decide +kernel
theorem dX10_feed_44 : decode cX10_feed 44 = .ok (.ireturn, 1) := by decide +kernel
theorem dX10_follow_0 : decode cX10_follow 0 = .ok (.aload_n 0, 1) := by decide +kernel
theorem dX10_follow_1 : decode cX10_follow 1 = .ok (.getfield 59, 3) := by decide +kernel
theorem dX10_follow_4 : decode cX10_follow 4 = .ok (.iload_n 1, 1) := by decide +kernel
theorem dX10_follow_5 : decode cX10_follow 5 = .ok (.invokevirtual 153, 3) := by decide +kernel
theorem dX10_follow_8 : decode cX10_follow 8 = .ok (.istore 4, 2) := by decide +kernel
theorem dX10_follow_10 : decode cX10_follow 10 = .ok (.iload 4, 2) := by decide +kernel
theorem dX10_follow_12 : decode cX10_follow 12 = .ok (.ifCond .eq 6, 3) := by decide +kernel
theorem dX10_follow_15 : decode cX10_follow 15 = .ok (.iload 4, 2) := by decide +kernel
theorem dX10_follow_17 : decode cX10_follow 17 = .ok (.ireturn, 1) := by decide +kernel
theorem dX10_follow_18 : decode cX10_follow 18 = .ok (.iload_n 2, 1) := by decide +kernel
theorem dX10_follow_19 : decode cX10_follow 19 = .ok (.ifCond .lt 22, 3) := by decide +kernel
theorem dX10_follow_22 : decode cX10_follow 22 = .ok (.iload_n 3, 1) := by decide +kernel
theorem dX10_follow_23 : decode cX10_follow 23 = .ok (.ifCond .lt 18, 3) := by decide +kernel
theorem dX10_follow_26 : decode cX10_follow 26 = .ok (.iload_n 3, 1) := by decide +kernel
theorem dX10_follow_27 : decode cX10_follow 27 = .ok (.aload_n 0, 1) := by decide +kernel
theorem dX10_follow_28 : decode cX10_follow 28 = .ok (.getfield 59, 3) := by decide +kernel
theorem dX10_follow_31 : decode cX10_follow 31 = .ok (.getfield 156, 3) := by decide +kernel
theorem dX10_follow_34 : decode cX10_follow 34 = .ok (.iload_n 1, 1) := by decide +kernel
theorem dX10_follow_35 : decode cX10_follow 35 = .ok (.iaload, 1) := by decide +kernel
theorem dX10_follow_36 : decode cX10_follow 36 = .ok (.iload_n 2, 1) := by decide +kernel
theorem dX10_follow_37 : decode cX10_follow 37 = .ok (.isub, 1) := by decide +kernel
theorem dX10_follow_38 : decode cX10_follow 38 = .ok (.if_icmp .le 6, 3) := by decide +kernel
theorem dX10_follow_41 : decode cX10_follow 41 = .ok (.bipush (-13), 2) := by decide +kernel
theorem dX10_follow_43 : decode cX10_follow 43 = .ok (.ireturn, 1) := by decide +kernel
theorem dX10_follow_44 : decode cX10_follow 44 = .ok (.iconst 0, 1) := by decide +kernel
theorem dX10_follow_45 : decode cX10_follow 45 = .ok (.istore 5, 2) := by decide +kernel
theorem dX10_follow_47 : decode cX10_follow 47 = .ok (.iload 5, 2) := by decide +kernel
theorem dX10_follow_49 : decode cX10_follow 49 = .ok (.iload_n 3, 1) := by decide +kernel
theorem dX10_follow_50 : decode cX10_follow 50 = .ok (.if_icmp .ge 56, 3) := by decide +kernel
theorem dX10_follow_53 : decode cX10_follow 53 = .ok (.aload_n 0, 1) := by decide +kernel
theorem dX10_follow_54 : decode cX10_follow 54 = .ok (.getfield 59, 3) := by decide +kernel
theorem dX10_follow_57 : decode cX10_follow 57 = .ok (.getfield 159, 3) := by decide +kernel
theorem dX10_follow_60 : decode cX10_follow 60 = .ok (.iload_n 1, 1) := by decide +kernel
theorem dX10_follow_61 : decode cX10_follow 61 = .ok (.aaload, 1) := by decide +kernel
theorem dX10_follow_62 : decode cX10_follow 62 = .ok (.iload_n 2, 1) := by decide +kernel
theorem dX10_follow_63 : decode cX10_follow 63 = .ok (.iload 5, 2) := by decide +kernel
theorem dX10_follow_65 : decode cX10_follow 65 = .ok (.iadd, 1) := by decide +kernel
theorem dX10_follow_66 : decode cX10_follow 66 = .ok (.iaload, 1) := by decide +kernel
theorem dX10_follow_67 : decode cX10_follow 67 = .ok (.istore 6, 2) := by decide +kernel
theorem dX10_follow_69 : decode cX10_follow 69 = .ok (.aload_n 0, 1) := by decide +kernel
theorem dX10_follow_70 : decode cX10_follow 70 = .ok (.iload 6, 2) := by decide +kernel
theorem dX10_follow_72 : decode cX10_follow 72 = .ok (.invokevirtual 111, 3) := by decide +kernel
theorem dX10_follow_75 : decode cX10_follow 75 = .ok (.ifCond .eq 16, 3) := by decide +kernel
theorem dX10_follow_78 : decode cX10_follow 78 = .ok (.aload_n 0, 1) := by decide +kernel
theorem dX10_follow_79 : decode cX10_follow 79 = .ok (.getfield 10, 3) := by decide +kernel
theorem dX10_follow_82 : decode cX10_follow 82 = .ok (.getfield 117, 3) := by decide +kernel
theorem dX10_follow_85 : decode cX10_follow 85 = .ok (.iload 6, 2) := by decide +kernel
theorem dX10_follow_87 : decode cX10_follow 87 = .ok (.iaload, 1) := by decide +kernel
theorem dX10_follow_88 : decode cX10_follow 88 = .ok (.ifCond .eq 6, 3) := by decide +kernel
theorem dX10_follow_91 : decode cX10_follow 91 = .ok (.iload 5, 2) := by decide +kernel
theorem dX10_follow_93 : decode cX10_follow 93 = .ok (.ireturn, 1) := by decide +kernel
theorem dX10_follow_94 : decode cX10_follow 94 = .ok (.aload_n 0, 1) := by decide +kernel
theorem dX10_follow_95 : decode cX10_follow 95 = .ok (.iload 6, 2) := by decide +kernel
theorem dX10_follow_97 : decode cX10_follow 97 = .ok (.invokevirtual 146, 3) := by decide +kernel
theorem dX10_follow_100 : decode cX10_follow 100 = .ok (.iinc 5 1, 3) := by decide +kernel
theorem dX10_follow_103 : decode cX10_follow 103 = .ok (.goto (-56), 3) := by decide +kernel
theorem dX10_follow_106 : decode cX10_follow 106 = .ok (.iload_n 3, 1) := by decide +kernel
theorem dX10_follow_107 : decode cX10_follow 107 = .ok (.ireturn, 1) := by decide +kernel
theorem dX10_found_0 : decode cX10_found 0 = .ok (.iload_n 1, 1) := by decide +kernel
theorem dX10_found_1 : decode cX10_found 1 = .ok (.ifCond .lt 9, 3) := by decide +kernel
theorem dX10_found_4 : decode cX10_found 4 = .ok (.iload_n 1, 1) := by decide +kernel
theorem dX10_found_5 : decode cX10_found 5 = .ok (.bipush 8, 2) := by decide +kernel
theorem dX10_found_7 : decode cX10_found 7 = .ok (.if_icmp .le 5, 3) := by decide +kernel
theorem dX10_found_10 : decode cX10_found 10 = .ok (.iconst (-1), 1) := by decide +kernel
theorem dX10_found_11 : decode cX10_found 11 = .ok (.ireturn, 1) := by decide +kernel
theorem dX10_found_12 : decode cX10_found 12 = .ok (.aload_n 0, 1) := by decide +kernel
theorem dX10_found_13 : decode cX10_found 13 = .ok (.getfield 52, 3) := by decide +kernel
theorem dX10_found_16 : decode cX10_found 16 = .ok (.aload_n 0, 1) := by decide +kernel
theorem dX10_found_17 : decode cX10_found 17 = .ok (.getfield 10, 3) := by decide +kernel
theorem dX10_found_20 : decode cX10_found 20 = .ok (.aload_n 0, 1) := by decide +kernel
theorem dX10_found_21 : decode cX10_found 21 = .ok (.getfield 45, 3) := by decide +kernel
theorem dX10_found_24 : decode cX10_found 24 = .ok (.invokevirtual 215, 3) := by decide +kernel
theorem dX10_found_27 : decode cX10_found 27 = .ok (.iload_n 1, 1) := by decide +kernel
theorem dX10_found_28 : decode cX10_found 28 = .ok (.tableswitch 132 0 7 #[48, 59, 70, 78, 86, 94, 109, 124], 48) := by decide +kernel
theorem dX10_found_76 : decode cX10_found 76 = .ok (.aload_n 0, 1) := by decide +kernel
theorem dX10_found_77 : decode cX10_found 77 = .ok (.getfield 52, 3) := by decide +kernel
theorem dX10_found_80 : decode cX10_found 80 = .ok (.getfield 219, 3) := by decide +kernel
theorem dX10_found_83 : decode cX10_found 83 = .ok (.getfield 223, 3) := by decide +kernel
theorem dX10_found_86 : decode cX10_found 86 = .ok (.ireturn, 1) := by decide +kernel
theorem dX10_found_87 : decode cX10_found 87 = .ok (.aload_n 0, 1) := by decide +kernel
theorem dX10_found_88 : decode cX10_found 88 = .ok (.getfield 52, 3) := by decide +kernel
theorem dX10_found_91 : decode cX10_found 91 = .ok (.getfield 226, 3) := by decide +kernel
theorem dX10_found_94 : decode cX10_found 94 = .ok (.invokestatic 88, 3) := by decide +kernel
theorem dX10_found_97 : decode cX10_found 97 = .ok (.ireturn, 1) := by decide +kernel
theorem dX10_found_98 : decode cX10_found 98 = .ok (.aload_n 0, 1) := by decide +kernel
theorem dX10_found_99 : decode cX10_found 99 = .ok (.getfield 52, 3) := by decide +kernel
theorem dX10_found_102 : decode cX10_found 102 = .ok (.getfield 229, 3) := by decide +kernel
theorem dX10_found_105 : decode cX10_found 105 = .ok (.ireturn, 1) := by decide +kernel
theorem dX10_found_106 : decode cX10_found 106 = .ok (.aload_n 0, 1) := by decide +kernel
theorem dX10_found_107 : decode cX10_found 107 = .ok (.getfield 52, 3) := by decide +kernel
theorem dX10_found_110 : decode cX10_found 110 = .ok (.getfield 232, 3) := by decide +kernel
theorem dX10_found_113 : decode cX10_found 113 = .ok (.ireturn, 1) := by decide +kernel
theorem dX10_found_114 : decode cX10_found 114 = .ok (.aload_n 0, 1) := by decide +kernel
theorem dX10_found_115 : decode cX10_found 115 = .ok (.getfield 52, 3) := by decide +kernel
theorem dX10_found_118 : decode cX10_found 118 = .ok (.invokevirtual 235, 3) := by decide +kernel
theorem dX10_found_121 : decode cX10_found 121 = .ok (.ireturn, 1) := by decide +kernel
theorem dX10_found_122 : decode cX10_found 122 = .ok (.aload_n 0, 1) := by decide +kernel
theorem dX10_found_123 : decode cX10_found 123 = .ok (.getfield 52, 3) := by decide +kernel
theorem dX10_found_126 : decode cX10_found 126 = .ok (.aload_n 0, 1) := by decide +kernel
theorem dX10_found_127 : decode cX10_found 127 = .ok (.getfield 52, 3) := by decide +kernel
theorem dX10_found_130 : decode cX10_found 130 = .ok (.getfield 238, 3) := by decide +kernel
theorem dX10_found_133 : decode cX10_found 133 = .ok (.invokevirtual 241, 3) := by decide +kernel
theorem dX10_found_136 : decode cX10_found 136 = .ok (.ireturn, 1) := by decide +kernel
theorem dX10_found_137 : decode cX10_found 137 = .ok (.aload_n 0, 1) := by decide +kernel
theorem dX10_found_138 : decode cX10_found 138 = .ok (.getfield 52, 3) := by decide +kernel
theorem dX10_found_141 : decode cX10_found 141 = .ok (.aload_n 0, 1) := by decide +kernel
theorem dX10_found_142 : decode cX10_found 142 = .ok (.getfield 52, 3) := by decide +kernel
theorem dX10_found_145 : decode cX10_found 145 = .ok (.getfield 244, 3) := by decide +kernel
theorem dX10_found_148 : decode cX10_found 148 = .ok (.invokevirtual 241, 3) := by decide +kernel
theorem dX10_found_151 : decode cX10_found 151 = .ok (.ireturn, 1) := by decide +kernel
theorem dX10_found_152 : decode cX10_found 152 = .ok (.aload_n 0, 1) := by decide +kernel
theorem dX10_found_153 : decode cX10_found 153 = .ok (.getfield 52, 3) := by decide +kernel
theorem dX10_found_156 : decode cX10_found 156 = .ok (.getfield 247, 3) := by decide +kernel
theorem dX10_found_159 : decode cX10_found 159 = .ok (.ireturn, 1) := by decide +kernel
theorem dX10_found_160 : decode cX10_found 160 = .ok (.aload_n 0, 1) := by decide +kernel
theorem dX10_found_161 : decode cX10_found 161 = .ok (.getfield 52, 3) := by decide +kernel
theorem dX10_found_164 : decode cX10_found 164 = .ok (.getfield 250, 3) := by decide +kernel
theorem dX10_found_167 : decode cX10_found 167 = .ok (.invokestatic 88, 3) := by decide +kernel
theorem dX10_found_170 : decode cX10_found 170 = .ok (.ireturn, 1) := by decide +kernel
theorem dX10_gate_0 : decode cX10_gate 0 = .ok (.iload_n 1, 1) := by decide +kernel
theorem dX10_gate_1 : decode cX10_gate 1 = .ok (.invokestatic 77, 3) := by decide +kernel
theorem dX10_gate_4 : decode cX10_gate 4 = .ok (.ifCond .ne 5, 3) := by decide +kernel
theorem dX10_gate_7 : decode cX10_gate 7 = .ok (.iconst (-1), 1) := by decide +kernel
theorem dX10_gate_8 : decode cX10_gate 8 = .ok (.ireturn, 1) := by decide +kernel
theorem dX10_gate_9 : decode cX10_gate 9 = .ok (.iload_n 2, 1) := by decide +kernel
theorem dX10_gate_10 : decode cX10_gate 10 = .ok (.tableswitch 111 0 4 #[34, 62, 72, 85, 98], 34) := by decide +kernel
theorem dX10_gate_44 : decode cX10_gate 44 = .ok (.aload_n 0, 1) := by decide +kernel
theorem dX10_gate_45 : decode cX10_gate 45 = .ok (.getfield 10, 3) := by decide +kernel
theorem dX10_gate_48 : decode cX10_gate 48 = .ok (.getfield 178, 3) := by decide +kernel
theorem dX10_gate_51 : decode cX10_gate 51 = .ok (.iload_n 1, 1) := by decide +kernel
theorem dX10_gate_52 : decode cX10_gate 52 = .ok (.iaload, 1) := by decide +kernel
theorem dX10_gate_53 : decode cX10_gate 53 = .ok (.iconst (-1), 1) := by decide +kernel
theorem dX10_gate_54 : decode cX10_gate 54 = .ok (.if_icmp .ne 8, 3) := by decide +kernel
theorem dX10_gate_57 : decode cX10_gate 57 = .ok (.bipush (-5), 2) := by decide +kernel
theorem dX10_gate_59 : decode cX10_gate 59 = .ok (.goto 12, 3) := by decide +kernel
theorem dX10_gate_62 : decode cX10_gate 62 = .ok (.aload_n 0, 1) := by decide +kernel
theorem dX10_gate_63 : decode cX10_gate 63 = .ok (.getfield 10, 3) := by decide +kernel
theorem dX10_gate_66 : decode cX10_gate 66 = .ok (.getfield 178, 3) := by decide +kernel
theorem dX10_gate_69 : decode cX10_gate 69 = .ok (.iload_n 1, 1) := by decide +kernel
theorem dX10_gate_70 : decode cX10_gate 70 = .ok (.iaload, 1) := by decide +kernel
theorem dX10_gate_71 : decode cX10_gate 71 = .ok (.ireturn, 1) := by decide +kernel
theorem dX10_gate_72 : decode cX10_gate 72 = .ok (.aload_n 0, 1) := by decide +kernel
theorem dX10_gate_73 : decode cX10_gate 73 = .ok (.getfield 10, 3) := by decide +kernel
theorem dX10_gate_76 : decode cX10_gate 76 = .ok (.getfield 181, 3) := by decide +kernel
theorem dX10_gate_79 : decode cX10_gate 79 = .ok (.iload_n 1, 1) := by decide +kernel
theorem dX10_gate_80 : decode cX10_gate 80 = .ok (.iaload, 1) := by decide +kernel
theorem dX10_gate_81 : decode cX10_gate 81 = .ok (.ireturn, 1) := by decide +kernel
theorem dX10_gate_82 : decode cX10_gate 82 = .ok (.aload_n 0, 1) := by decide +kernel
theorem dX10_gate_83 : decode cX10_gate 83 = .ok (.getfield 10, 3) := by decide +kernel
theorem dX10_gate_86 : decode cX10_gate 86 = .ok (.getfield 184, 3) := by decide +kernel
theorem dX10_gate_89 : decode cX10_gate 89 = .ok (.iload_n 1, 1) := by decide +kernel
theorem dX10_gate_90 : decode cX10_gate 90 = .ok (.iaload, 1) := by decide +kernel
theorem dX10_gate_91 : decode cX10_gate 91 = .ok (.invokestatic 187, 3) := by decide +kernel
theorem dX10_gate_94 : decode cX10_gate 94 = .ok (.ireturn, 1) := by decide +kernel
theorem dX10_gate_95 : decode cX10_gate 95 = .ok (.aload_n 0, 1) := by decide +kernel
theorem dX10_gate_96 : decode cX10_gate 96 = .ok (.getfield 10, 3) := by decide +kernel
theorem dX10_gate_99 : decode cX10_gate 99 = .ok (.getfield 192, 3) := by decide +kernel
theorem dX10_gate_102 : decode cX10_gate 102 = .ok (.iload_n 1, 1) := by decide +kernel
theorem dX10_gate_103 : decode cX10_gate 103 = .ok (.iaload, 1) := by decide +kernel
theorem dX10_gate_104 : decode cX10_gate 104 = .ok (.invokestatic 187, 3) := by decide +kernel
theorem dX10_gate_107 : decode cX10_gate 107 = .ok (.ireturn, 1) := by decide +kernel
theorem dX10_gate_108 : decode cX10_gate 108 = .ok (.aload_n 0, 1) := by decide +kernel
theorem dX10_gate_109 : decode cX10_gate 109 = .ok (.getfield 10, 3) := by decide +kernel
theorem dX10_gate_112 : decode cX10_gate 112 = .ok (.getfield 84, 3) := by decide +kernel
theorem dX10_gate_115 : decode cX10_gate 115 = .ok (.iload_n 1, 1) := by decide +kernel
theorem dX10_gate_116 : decode cX10_gate 116 = .ok (.baload, 1) := by decide +kernel
theorem dX10_gate_117 : decode cX10_gate 117 = .ok (.invokestatic 88, 3) := by decide +kernel
theorem dX10_gate_120 : decode cX10_gate 120 = .ok (.ireturn, 1) := by decide +kernel
theorem dX10_gate_121 : decode cX10_gate 121 = .ok (.iconst (-1), 1) := by decide +kernel
theorem dX10_gate_122 : decode cX10_gate 122 = .ok (.ireturn, 1) := by decide +kernel
theorem dX10_get_0 : decode cX10_get 0 = .ok (.iload_n 1, 1) := by decide +kernel
theorem dX10_get_1 : decode cX10_get 1 = .ok (.invokestatic 271, 3) := by decide +kernel
theorem dX10_get_4 : decode cX10_get 4 = .ok (.ifCond .eq 29, 3) := by decide +kernel
theorem dX10_get_7 : decode cX10_get 7 = .ok (.aload_n 0, 1) := by decide +kernel
theorem dX10_get_8 : decode cX10_get 8 = .ok (.getfield 59, 3) := by decide +kernel
theorem dX10_get_11 : decode cX10_get 11 = .ok (.iload_n 1, 1) := by decide +kernel
theorem dX10_get_12 : decode cX10_get 12 = .ok (.iload_n 2, 1) := by decide +kernel
theorem dX10_get_13 : decode cX10_get 13 = .ok (.invokevirtual 278, 3) := by decide +kernel
theorem dX10_get_16 : decode cX10_get 16 = .ok (.ifCond .eq 17, 3) := by decide +kernel
theorem dX10_get_19 : decode cX10_get 19 = .ok (.aload_n 0, 1) := by decide +kernel
theorem dX10_get_20 : decode cX10_get 20 = .ok (.getfield 59, 3) := by decide +kernel
theorem dX10_get_23 : decode cX10_get 23 = .ok (.getfield 159, 3) := by decide +kernel
theorem dX10_get_26 : decode cX10_get 26 = .ok (.iload_n 1, 1) := by decide +kernel
theorem dX10_get_27 : decode cX10_get 27 = .ok (.aaload, 1) := by decide +kernel
theorem dX10_get_28 : decode cX10_get 28 = .ok (.iload_n 2, 1) := by decide +kernel
theorem dX10_get_29 : decode cX10_get 29 = .ok (.iaload, 1) := by decide +kernel
theorem dX10_get_30 : decode cX10_get 30 = .ok (.goto 6, 3) := by decide +kernel
theorem dX10_get_33 : decode cX10_get 33 = .ok (.ldc_w 282, 3) := by decide +kernel
theorem dX10_get_36 : decode cX10_get 36 = .ok (.ireturn, 1) := by decide +kernel
theorem dX10_holds_0 : decode cX10_holds 0 = .ok (.aload_n 0, 1) := by decide +kernel
theorem dX10_holds_1 : decode cX10_holds 1 = .ok (.getfield 45, 3) := by decide +kernel
theorem dX10_holds_4 : decode cX10_holds 4 = .ok (.aload_n 0, 1) := by decide +kernel
theorem dX10_holds_5 : decode cX10_holds 5 = .ok (.getfield 10, 3) := by decide +kernel
theorem dX10_holds_8 : decode cX10_holds 8 = .ok (.getfield 98, 3) := by decide +kernel
theorem dX10_holds_11 : decode cX10_holds 11 = .ok (.invokevirtual 267, 3) := by decide +kernel
theorem dX10_holds_14 : decode cX10_holds 14 = .ok (.invokestatic 88, 3) := by decide +kernel
theorem dX10_holds_17 : decode cX10_holds 17 = .ok (.ireturn, 1) := by decide +kernel
theorem dX10_image_0 : decode cX10_image 0 = .ok (.aload_n 0, 1) := by decide +kernel
theorem dX10_image_1 : decode cX10_image 1 = .ok (.getfield 16, 3) := by decide +kernel
theorem dX10_image_4 : decode cX10_image 4 = .ok (.aload_n 0, 1) := by decide +kernel
theorem dX10_image_5 : decode cX10_image 5 = .ok (.getfield 10, 3) := by decide +kernel
theorem dX10_image_8 : decode cX10_image 8 = .ok (.invokevirtual 283, 3) := by decide +kernel
theorem dX10_image_11 : decode cX10_image 11 = .ok (.aload_n 0, 1) := by decide +kernel
theorem dX10_image_12 : decode cX10_image 12 = .ok (.getfield 16, 3) := by decide +kernel
theorem dX10_image_15 : decode cX10_image 15 = .ok (.invokevirtual 286, 3) := by decide +kernel
theorem dX10_image_18 : decode cX10_image 18 = .ok (.aload_n 0, 1) := by decide +kernel
theorem dX10_image_19 : decode cX10_image 19 = .ok (.iconst 1, 1) := by decide +kernel
theorem dX10_image_20 : decode cX10_image 20 = .ok (.putfield 19, 3) := by decide +kernel
theorem dX10_image_23 : decode cX10_image 23 = .ok (.aload_n 0, 1) := by decide +kernel
theorem dX10_image_24 : decode cX10_image 24 = .ok (.getfield 16, 3) := by decide +kernel
theorem dX10_image_27 : decode cX10_image 27 = .ok (.getfield 63, 3) := by decide +kernel
theorem dX10_image_30 : decode cX10_image 30 = .ok (.ireturn, 1) := by decide +kernel
theorem dX10_init_0 : decode cX10_init 0 = .ok (.aload_n 0, 1) := by decide +kernel
theorem dX10_init_1 : decode cX10_init 1 = .ok (.invokespecial 1, 3) := by decide +kernel
theorem dX10_init_4 : decode cX10_init 4 = .ok (.aload_n 0, 1) := by decide +kernel
theorem dX10_init_5 : decode cX10_init 5 = .ok (.new 7, 3) := by decide +kernel
theorem dX10_init_8 : decode cX10_init 8 = .ok (.dup, 1) := by decide +kernel
theorem dX10_init_9 : decode cX10_init 9 = .ok (.invokespecial 9, 3) := by decide +kernel
theorem dX10_init_12 : decode cX10_init 12 = .ok (.putfield 10, 3) := by decide +kernel
theorem dX10_init_15 : decode cX10_init 15 = .ok (.aload_n 0, 1) := by decide +kernel
theorem dX10_init_16 : decode cX10_init 16 = .ok (.new 7, 3) := by decide +kernel
theorem dX10_init_19 : decode cX10_init 19 = .ok (.dup, 1) := by decide +kernel
theorem dX10_init_20 : decode cX10_init 20 = .ok (.invokespecial 9, 3) := by decide +kernel
theorem dX10_init_23 : decode cX10_init 23 = .ok (.putfield 16, 3) := by decide +kernel
theorem dX10_init_26 : decode cX10_init 26 = .ok (.aload_n 0, 1) := by decide +kernel
theorem dX10_init_27 : decode cX10_init 27 = .ok (.iconst 0, 1) := by decide +kernel
theorem dX10_init_28 : decode cX10_init 28 = .ok (.putfield 19, 3) := by decide +kernel
theorem dX10_init_31 : decode cX10_init 31 = .ok (.aload_n 0, 1) := by decide +kernel
theorem dX10_init_32 : decode cX10_init 32 = .ok (.new 23, 3) := by decide +kernel
theorem dX10_init_35 : decode cX10_init 35 = .ok (.dup, 1) := by decide +kernel
theorem dX10_init_36 : decode cX10_init 36 = .ok (.invokespecial 25, 3) := by decide +kernel
theorem dX10_init_39 : decode cX10_init 39 = .ok (.putfield 26, 3) := by decide +kernel
theorem dX10_init_42 : decode cX10_init 42 = .ok (.aload_n 0, 1) := by decide +kernel
theorem dX10_init_43 : decode cX10_init 43 = .ok (.aload_n 0, 1) := by decide +kernel
theorem dX10_init_44 : decode cX10_init 44 = .ok (.getfield 26, 3) := by decide +kernel
theorem dX10_init_47 : decode cX10_init 47 = .ok (.getfield 30, 3) := by decide +kernel
theorem dX10_init_50 : decode cX10_init 50 = .ok (.putfield 34, 3) := by decide +kernel
theorem dX10_init_53 : decode cX10_init 53 = .ok (.aload_n 0, 1) := by decide +kernel
theorem dX10_init_54 : decode cX10_init 54 = .ok (.new 35, 3) := by decide +kernel
theorem dX10_init_57 : decode cX10_init 57 = .ok (.dup, 1) := by decide +kernel
theorem dX10_init_58 : decode cX10_init 58 = .ok (.invokespecial 37, 3) := by decide +kernel
theorem dX10_init_61 : decode cX10_init 61 = .ok (.putfield 38, 3) := by decide +kernel
theorem dX10_init_64 : decode cX10_init 64 = .ok (.aload_n 0, 1) := by decide +kernel
theorem dX10_init_65 : decode cX10_init 65 = .ok (.new 42, 3) := by decide +kernel
theorem dX10_init_68 : decode cX10_init 68 = .ok (.dup, 1) := by decide +kernel
theorem dX10_init_69 : decode cX10_init 69 = .ok (.invokespecial 44, 3) := by decide +kernel
theorem dX10_init_72 : decode cX10_init 72 = .ok (.putfield 45, 3) := by decide +kernel
theorem dX10_init_75 : decode cX10_init 75 = .ok (.aload_n 0, 1) := by decide +kernel
theorem dX10_init_76 : decode cX10_init 76 = .ok (.new 49, 3) := by decide +kernel
theorem dX10_init_79 : decode cX10_init 79 = .ok (.dup, 1) := by decide +kernel
theorem dX10_init_80 : decode cX10_init 80 = .ok (.invokespecial 51, 3) := by decide +kernel
theorem dX10_init_83 : decode cX10_init 83 = .ok (.putfield 52, 3) := by decide +kernel
theorem dX10_init_86 : decode cX10_init 86 = .ok (.aload_n 0, 1) := by decide +kernel
theorem dX10_init_87 : decode cX10_init 87 = .ok (.new 56, 3) := by decide +kernel
theorem dX10_init_90 : decode cX10_init 90 = .ok (.dup, 1) := by decide +kernel
theorem dX10_init_91 : decode cX10_init 91 = .ok (.invokespecial 58, 3) := by decide +kernel
theorem dX10_init_94 : decode cX10_init 94 = .ok (.putfield 59, 3) := by decide +kernel
theorem dX10_init_97 : decode cX10_init 97 = .ok (.return_, 1) := by decide +kernel
theorem dX10_isCell_0 : decode cX10_isCell 0 = .ok (.iload_n 0, 1) := by decide +kernel
theorem dX10_isCell_1 : decode cX10_isCell 1 = .ok (.ifCond .lt 12, 3) := by decide +kernel
theorem dX10_isCell_4 : decode cX10_isCell 4 = .ok (.iload_n 0, 1) := by decide +kernel
theorem dX10_isCell_5 : decode cX10_isCell 5 = .ok (.iconst 4, 1) := by decide +kernel
theorem dX10_isCell_6 : decode cX10_isCell 6 = .ok (.if_icmp .ge 7, 3) := by decide +kernel
theorem dX10_isCell_9 : decode cX10_isCell 9 = .ok (.iconst 1, 1) := by decide +kernel
theorem dX10_isCell_10 : decode cX10_isCell 10 = .ok (.goto 4, 3) := by decide +kernel
theorem dX10_isCell_13 : decode cX10_isCell 13 = .ok (.iconst 0, 1) := by decide +kernel
theorem dX10_isCell_14 : decode cX10_isCell 14 = .ok (.ireturn, 1) := by decide +kernel
theorem dX10_isCellNumber_0 : decode cX10_isCellNumber 0 = .ok (.iload_n 0, 1) := by decide +kernel
theorem dX10_isCellNumber_1 : decode cX10_isCellNumber 1 = .ok (.bipush (-99), 2) := by decide +kernel
theorem dX10_isCellNumber_3 : decode cX10_isCellNumber 3 = .ok (.if_icmp .lt 13, 3) := by decide +kernel
theorem dX10_isCellNumber_6 : decode cX10_isCellNumber 6 = .ok (.iload_n 0, 1) := by decide +kernel
theorem dX10_isCellNumber_7 : decode cX10_isCellNumber 7 = .ok (.bipush 99, 2) := by decide +kernel
theorem dX10_isCellNumber_9 : decode cX10_isCellNumber 9 = .ok (.if_icmp .gt 7, 3) := by decide +kernel
theorem dX10_isCellNumber_12 : decode cX10_isCellNumber 12 = .ok (.iconst 1, 1) := by decide +kernel
theorem dX10_isCellNumber_13 : decode cX10_isCellNumber 13 = .ok (.goto 4, 3) := by decide +kernel
theorem dX10_isCellNumber_16 : decode cX10_isCellNumber 16 = .ok (.iconst 0, 1) := by decide +kernel
theorem dX10_isCellNumber_17 : decode cX10_isCellNumber 17 = .ok (.ireturn, 1) := by decide +kernel
theorem dX10_isList_0 : decode cX10_isList 0 = .ok (.iload_n 0, 1) := by decide +kernel
theorem dX10_isList_1 : decode cX10_isList 1 = .ok (.ifCond .lt 12, 3) := by decide +kernel
theorem dX10_isList_4 : decode cX10_isList 4 = .ok (.iload_n 0, 1) := by decide +kernel
theorem dX10_isList_5 : decode cX10_isList 5 = .ok (.iconst 4, 1) := by decide +kernel
theorem dX10_isList_6 : decode cX10_isList 6 = .ok (.if_icmp .ge 7, 3) := by decide +kernel
theorem dX10_isList_9 : decode cX10_isList 9 = .ok (.iconst 1, 1) := by decide +kernel
theorem dX10_isList_10 : decode cX10_isList 10 = .ok (.goto 4, 3) := by decide +kernel
theorem dX10_isList_13 : decode cX10_isList 13 = .ok (.iconst 0, 1) := by decide +kernel
theorem dX10_isList_14 : decode cX10_isList 14 = .ok (.ireturn, 1) := by decide +kernel
theorem dX10_isMonitor_0 : decode cX10_isMonitor 0 = .ok (.iload_n 0, 1) := by decide +kernel
theorem dX10_isMonitor_1 : decode cX10_isMonitor 1 = .ok (.ifCond .lt 12, 3) := by decide +kernel
theorem dX10_isMonitor_4 : decode cX10_isMonitor 4 = .ok (.iload_n 0, 1) := by decide +kernel
theorem dX10_isMonitor_5 : decode cX10_isMonitor 5 = .ok (.iconst 3, 1) := by decide +kernel
theorem dX10_isMonitor_6 : decode cX10_isMonitor 6 = .ok (.if_icmp .ge 7, 3) := by decide +kernel
theorem dX10_isMonitor_9 : decode cX10_isMonitor 9 = .ok (.iconst 1, 1) := by decide +kernel
theorem dX10_isMonitor_10 : decode cX10_isMonitor 10 = .ok (.goto 4, 3) := by decide +kernel
theorem dX10_isMonitor_13 : decode cX10_isMonitor 13 = .ok (.iconst 0, 1) := by decide +kernel
theorem dX10_isMonitor_14 : decode cX10_isMonitor 14 = .ok (.ireturn, 1) := by decide +kernel
theorem dX10_isTask_0 : decode cX10_isTask 0 = .ok (.iload_n 1, 1) := by decide +kernel
theorem dX10_isTask_1 : decode cX10_isTask 1 = .ok (.ifCond .lt 18, 3) := by decide +kernel
theorem dX10_isTask_4 : decode cX10_isTask 4 = .ok (.iload_n 1, 1) := by decide +kernel
theorem dX10_isTask_5 : decode cX10_isTask 5 = .ok (.aload_n 0, 1) := by decide +kernel
theorem dX10_isTask_6 : decode cX10_isTask 6 = .ok (.getfield 10, 3) := by decide +kernel
theorem dX10_isTask_9 : decode cX10_isTask 9 = .ok (.getfield 63, 3) := by decide +kernel
theorem dX10_isTask_12 : decode cX10_isTask 12 = .ok (.if_icmp .ge 7, 3) := by decide +kernel
theorem dX10_isTask_15 : decode cX10_isTask 15 = .ok (.iconst 1, 1) := by decide +kernel
theorem dX10_isTask_16 : decode cX10_isTask 16 = .ok (.goto 4, 3) := by decide +kernel
theorem dX10_isTask_19 : decode cX10_isTask 19 = .ok (.iconst 0, 1) := by decide +kernel
theorem dX10_isTask_20 : decode cX10_isTask 20 = .ok (.ireturn, 1) := by decide +kernel
theorem dX10_lay_0 : decode cX10_lay 0 = .ok (.iload_n 1, 1) := by decide +kernel
theorem dX10_lay_1 : decode cX10_lay 1 = .ok (.ifCond .lt 8, 3) := by decide +kernel
theorem dX10_lay_4 : decode cX10_lay 4 = .ok (.iload_n 1, 1) := by decide +kernel
theorem dX10_lay_5 : decode cX10_lay 5 = .ok (.iconst 1, 1) := by decide +kernel
theorem dX10_lay_6 : decode cX10_lay 6 = .ok (.if_icmp .le 5, 3) := by decide +kernel
theorem dX10_lay_9 : decode cX10_lay 9 = .ok (.iconst (-1), 1) := by decide +kernel
theorem dX10_lay_10 : decode cX10_lay 10 = .ok (.ireturn, 1) := by decide +kernel
theorem dX10_lay_11 : decode cX10_lay 11 = .ok (.aload_n 0, 1) := by decide +kernel
theorem dX10_lay_12 : decode cX10_lay 12 = .ok (.getfield 59, 3) := by decide +kernel
theorem dX10_lay_15 : decode cX10_lay 15 = .ok (.iload_n 2, 1) := by decide +kernel
theorem dX10_lay_16 : decode cX10_lay 16 = .ok (.invokevirtual 153, 3) := by decide +kernel
theorem dX10_lay_19 : decode cX10_lay 19 = .ok (.istore 4, 2) := by decide +kernel
theorem dX10_lay_21 : decode cX10_lay 21 = .ok (.iload 4, 2) := by decide +kernel
theorem dX10_lay_23 : decode cX10_lay 23 = .ok (.ifCond .eq 6, 3) := by decide +kernel
theorem dX10_lay_26 : decode cX10_lay 26 = .ok (.iload 4, 2) := by decide +kernel
theorem dX10_lay_28 : decode cX10_lay 28 = .ok (.ireturn, 1) := by decide +kernel
theorem dX10_lay_29 : decode cX10_lay 29 = .ok (.aload_n 0, 1) := by decide +kernel
theorem dX10_lay_30 : decode cX10_lay 30 = .ok (.getfield 52, 3) := by decide +kernel
theorem dX10_lay_33 : decode cX10_lay 33 = .ok (.aload_n 0, 1) := by decide +kernel
theorem dX10_lay_34 : decode cX10_lay 34 = .ok (.getfield 10, 3) := by decide +kernel
theorem dX10_lay_37 : decode cX10_lay 37 = .ok (.aload_n 0, 1) := by decide +kernel
theorem dX10_lay_38 : decode cX10_lay 38 = .ok (.getfield 45, 3) := by decide +kernel
theorem dX10_lay_41 : decode cX10_lay 41 = .ok (.invokevirtual 215, 3) := by decide +kernel
theorem dX10_lay_44 : decode cX10_lay 44 = .ok (.iload_n 1, 1) := by decide +kernel
theorem dX10_lay_45 : decode cX10_lay 45 = .ok (.ifCond .ne 13, 3) := by decide +kernel
theorem dX10_lay_48 : decode cX10_lay 48 = .ok (.aload_n 0, 1) := by decide +kernel
theorem dX10_lay_49 : decode cX10_lay 49 = .ok (.getfield 52, 3) := by decide +kernel
theorem dX10_lay_52 : decode cX10_lay 52 = .ok (.getfield 238, 3) := by decide +kernel
theorem dX10_lay_55 : decode cX10_lay 55 = .ok (.goto 10, 3) := by decide +kernel
theorem dX10_lay_58 : decode cX10_lay 58 = .ok (.aload_n 0, 1) := by decide +kernel
theorem dX10_lay_59 : decode cX10_lay 59 = .ok (.getfield 52, 3) := by decide +kernel
theorem dX10_lay_62 : decode cX10_lay 62 = .ok (.getfield 244, 3) := by decide +kernel
theorem dX10_lay_65 : decode cX10_lay 65 = .ok (.istore 5, 2) := by decide +kernel
theorem dX10_lay_67 : decode cX10_lay 67 = .ok (.aload_n 0, 1) := by decide +kernel
theorem dX10_lay_68 : decode cX10_lay 68 = .ok (.getfield 52, 3) := by decide +kernel
theorem dX10_lay_71 : decode cX10_lay 71 = .ok (.iload 5, 2) := by decide +kernel
theorem dX10_lay_73 : decode cX10_lay 73 = .ok (.invokevirtual 241, 3) := by decide +kernel
theorem dX10_lay_76 : decode cX10_lay 76 = .ok (.istore 6, 2) := by decide +kernel
theorem dX10_lay_78 : decode cX10_lay 78 = .ok (.iload 6, 2) := by decide +kernel
theorem dX10_lay_80 : decode cX10_lay 80 = .ok (.ifCond .gt 6, 3) := by decide +kernel
theorem dX10_lay_83 : decode cX10_lay 83 = .ok (.iload 6, 2) := by decide +kernel
theorem dX10_lay_85 : decode cX10_lay 85 = .ok (.ireturn, 1) := by decide +kernel
theorem dX10_lay_86 : decode cX10_lay 86 = .ok (.iload_n 3, 1) := by decide +kernel
theorem dX10_lay_87 : decode cX10_lay 87 = .ok (.ifCond .ge 6, 3) := by decide +kernel
theorem dX10_lay_90 : decode cX10_lay 90 = .ok (.bipush (-13), 2) := by decide +kernel
theorem dX10_lay_92 : decode cX10_lay 92 = .ok (.ireturn, 1) := by decide +kernel
theorem dX10_lay_93 : decode cX10_lay 93 = .ok (.aload_n 0, 1) := by decide +kernel
theorem dX10_lay_94 : decode cX10_lay 94 = .ok (.getfield 59, 3) := by decide +kernel
theorem dX10_lay_97 : decode cX10_lay 97 = .ok (.getfield 156, 3) := by decide +kernel
theorem dX10_lay_100 : decode cX10_lay 100 = .ok (.iload_n 2, 1) := by decide +kernel
theorem dX10_lay_101 : decode cX10_lay 101 = .ok (.iaload, 1) := by decide +kernel
theorem dX10_lay_102 : decode cX10_lay 102 = .ok (.iload_n 3, 1) := by decide +kernel
theorem dX10_lay_103 : decode cX10_lay 103 = .ok (.isub, 1) := by decide +kernel
theorem dX10_lay_104 : decode cX10_lay 104 = .ok (.istore 7, 2) := by decide +kernel
theorem dX10_lay_106 : decode cX10_lay 106 = .ok (.iconst 0, 1) := by decide +kernel
theorem dX10_lay_107 : decode cX10_lay 107 = .ok (.istore 8, 2) := by decide +kernel
theorem dX10_lay_109 : decode cX10_lay 109 = .ok (.iload 8, 2) := by decide +kernel
theorem dX10_lay_111 : decode cX10_lay 111 = .ok (.iload 6, 2) := by decide +kernel
theorem dX10_lay_113 : decode cX10_lay 113 = .ok (.if_icmp .ge 41, 3) := by decide +kernel
theorem dX10_lay_116 : decode cX10_lay 116 = .ok (.iload 8, 2) := by decide +kernel
theorem dX10_lay_118 : decode cX10_lay 118 = .ok (.iload 7, 2) := by decide +kernel
theorem dX10_lay_120 : decode cX10_lay 120 = .ok (.if_icmp .ge 34, 3) := by decide +kernel
theorem dX10_lay_123 : decode cX10_lay 123 = .ok (.aload_n 0, 1) := by decide +kernel
theorem dX10_lay_124 : decode cX10_lay 124 = .ok (.getfield 59, 3) := by decide +kernel
theorem dX10_lay_127 : decode cX10_lay 127 = .ok (.getfield 159, 3) := by decide +kernel
theorem dX10_lay_130 : decode cX10_lay 130 = .ok (.iload_n 2, 1) := by decide +kernel
theorem dX10_lay_131 : decode cX10_lay 131 = .ok (.aaload, 1) := by decide +kernel
theorem dX10_lay_132 : decode cX10_lay 132 = .ok (.iload_n 3, 1) := by decide +kernel
theorem dX10_lay_133 : decode cX10_lay 133 = .ok (.iload 8, 2) := by decide +kernel
theorem dX10_lay_135 : decode cX10_lay 135 = .ok (.iadd, 1) := by decide +kernel
theorem dX10_lay_136 : decode cX10_lay 136 = .ok (.aload_n 0, 1) := by decide +kernel
theorem dX10_lay_137 : decode cX10_lay 137 = .ok (.getfield 52, 3) := by decide +kernel
theorem dX10_lay_140 : decode cX10_lay 140 = .ok (.iload 5, 2) := by decide +kernel
theorem dX10_lay_142 : decode cX10_lay 142 = .ok (.iload 8, 2) := by decide +kernel
theorem dX10_lay_144 : decode cX10_lay 144 = .ok (.invokevirtual 253, 3) := by decide +kernel
theorem dX10_lay_147 : decode cX10_lay 147 = .ok (.iastore, 1) := by decide +kernel
theorem dX10_lay_148 : decode cX10_lay 148 = .ok (.iinc 8 1, 3) := by decide +kernel
theorem dX10_lay_151 : decode cX10_lay 151 = .ok (.goto (-42), 3) := by decide +kernel
theorem dX10_lay_154 : decode cX10_lay 154 = .ok (.iload 6, 2) := by decide +kernel
theorem dX10_lay_156 : decode cX10_lay 156 = .ok (.iload 7, 2) := by decide +kernel
theorem dX10_lay_158 : decode cX10_lay 158 = .ok (.if_icmp .le 8, 3) := by decide +kernel
theorem dX10_lay_161 : decode cX10_lay 161 = .ok (.bipush (-13), 2) := by decide +kernel
theorem dX10_lay_163 : decode cX10_lay 163 = .ok (.goto 5, 3) := by decide +kernel
theorem dX10_lay_166 : decode cX10_lay 166 = .ok (.iload 6, 2) := by decide +kernel
theorem dX10_lay_168 : decode cX10_lay 168 = .ok (.ireturn, 1) := by decide +kernel
theorem dX10_list_0 : decode cX10_list 0 = .ok (.iload_n 1, 1) := by decide +kernel
theorem dX10_list_1 : decode cX10_list 1 = .ok (.invokestatic 271, 3) := by decide +kernel
theorem dX10_list_4 : decode cX10_list 4 = .ok (.ifCond .ne 5, 3) := by decide +kernel
theorem dX10_list_7 : decode cX10_list 7 = .ok (.iconst (-1), 1) := by decide +kernel
theorem dX10_list_8 : decode cX10_list 8 = .ok (.ireturn, 1) := by decide +kernel
theorem dX10_list_9 : decode cX10_list 9 = .ok (.iload_n 2, 1) := by decide +kernel
theorem dX10_list_10 : decode cX10_list 10 = .ok (.bipush 40, 2) := by decide +kernel
theorem dX10_list_12 : decode cX10_list 12 = .ok (.if_icmp .le 6, 3) := by decide +kernel
theorem dX10_list_15 : decode cX10_list 15 = .ok (.bipush (-2), 2) := by decide +kernel
theorem dX10_list_17 : decode cX10_list 17 = .ok (.ireturn, 1) := by decide +kernel
theorem dX10_list_18 : decode cX10_list 18 = .ok (.iload_n 2, 1) := by decide +kernel
theorem dX10_list_19 : decode cX10_list 19 = .ok (.ifCond .ge 6, 3) := by decide +kernel
theorem dX10_list_22 : decode cX10_list 22 = .ok (.bipush (-14), 2) := by decide +kernel
theorem dX10_list_24 : decode cX10_list 24 = .ok (.ireturn, 1) := by decide +kernel
theorem dX10_list_25 : decode cX10_list 25 = .ok (.aload_n 0, 1) := by decide +kernel
theorem dX10_list_26 : decode cX10_list 26 = .ok (.getfield 59, 3) := by decide +kernel
theorem dX10_list_29 : decode cX10_list 29 = .ok (.iload_n 1, 1) := by decide +kernel
theorem dX10_list_30 : decode cX10_list 30 = .ok (.iload_n 2, 1) := by decide +kernel
theorem dX10_list_31 : decode cX10_list 31 = .ok (.invokevirtual 274, 3) := by decide +kernel
theorem dX10_list_34 : decode cX10_list 34 = .ok (.iconst 1, 1) := by decide +kernel
theorem dX10_list_35 : decode cX10_list 35 = .ok (.ireturn, 1) := by decide +kernel
theorem dX10_missing_0 : decode cX10_missing 0 = .ok (.iload_n 1, 1) := by decide +kernel
theorem dX10_missing_1 : decode cX10_missing 1 = .ok (.invokestatic 77, 3) := by decide +kernel
theorem dX10_missing_4 : decode cX10_missing 4 = .ok (.ifCond .ne 5, 3) := by decide +kernel
theorem dX10_missing_7 : decode cX10_missing 7 = .ok (.iconst (-1), 1) := by decide +kernel
theorem dX10_missing_8 : decode cX10_missing 8 = .ok (.ireturn, 1) := by decide +kernel
theorem dX10_missing_9 : decode cX10_missing 9 = .ok (.aload_n 0, 1) := by decide +kernel
theorem dX10_missing_10 : decode cX10_missing 10 = .ok (.getfield 10, 3) := by decide +kernel
theorem dX10_missing_13 : decode cX10_missing 13 = .ok (.iload_n 1, 1) := by decide +kernel
theorem dX10_missing_14 : decode cX10_missing 14 = .ok (.invokevirtual 81, 3) := by decide +kernel
theorem dX10_missing_17 : decode cX10_missing 17 = .ok (.ifCond .eq 6, 3) := by decide +kernel
theorem dX10_missing_20 : decode cX10_missing 20 = .ok (.bipush (-3), 2) := by decide +kernel
theorem dX10_missing_22 : decode cX10_missing 22 = .ok (.ireturn, 1) := by decide +kernel
theorem dX10_missing_23 : decode cX10_missing 23 = .ok (.aload_n 0, 1) := by decide +kernel
theorem dX10_missing_24 : decode cX10_missing 24 = .ok (.getfield 10, 3) := by decide +kernel
theorem dX10_missing_27 : decode cX10_missing 27 = .ok (.getfield 84, 3) := by decide +kernel
theorem dX10_missing_30 : decode cX10_missing 30 = .ok (.iload_n 1, 1) := by decide +kernel
theorem dX10_missing_31 : decode cX10_missing 31 = .ok (.baload, 1) := by decide +kernel
theorem dX10_missing_32 : decode cX10_missing 32 = .ok (.istore_n 3, 1) := by decide +kernel
theorem dX10_missing_33 : decode cX10_missing 33 = .ok (.aload_n 0, 1) := by decide +kernel
theorem dX10_missing_34 : decode cX10_missing 34 = .ok (.getfield 52, 3) := by decide +kernel
theorem dX10_missing_37 : decode cX10_missing 37 = .ok (.invokevirtual 67, 3) := by decide +kernel
theorem dX10_missing_40 : decode cX10_missing 40 = .ok (.aload_n 0, 1) := by decide +kernel
theorem dX10_missing_41 : decode cX10_missing 41 = .ok (.getfield 10, 3) := by decide +kernel
theorem dX10_missing_44 : decode cX10_missing 44 = .ok (.getfield 84, 3) := by decide +kernel
theorem dX10_missing_47 : decode cX10_missing 47 = .ok (.iload_n 1, 1) := by decide +kernel
theorem dX10_missing_48 : decode cX10_missing 48 = .ok (.iload_n 2, 1) := by decide +kernel
theorem dX10_missing_49 : decode cX10_missing 49 = .ok (.bastore, 1) := by decide +kernel
theorem dX10_missing_50 : decode cX10_missing 50 = .ok (.iload_n 3, 1) := by decide +kernel
theorem dX10_missing_51 : decode cX10_missing 51 = .ok (.invokestatic 88, 3) := by decide +kernel
theorem dX10_missing_54 : decode cX10_missing 54 = .ok (.ireturn, 1) := by decide +kernel
theorem dX10_of_0 : decode cX10_of 0 = .ok (.aload_n 0, 1) := by decide +kernel
theorem dX10_of_1 : decode cX10_of 1 = .ok (.iload_n 1, 1) := by decide +kernel
theorem dX10_of_2 : decode cX10_of 2 = .ok (.invokevirtual 111, 3) := by decide +kernel
theorem dX10_of_5 : decode cX10_of 5 = .ok (.ifCond .ne 5, 3) := by decide +kernel
theorem dX10_of_8 : decode cX10_of 8 = .ok (.iconst (-1), 1) := by decide +kernel
theorem dX10_of_9 : decode cX10_of 9 = .ok (.ireturn, 1) := by decide +kernel
theorem dX10_of_10 : decode cX10_of 10 = .ok (.iload_n 2, 1) := by decide +kernel
theorem dX10_of_11 : decode cX10_of 11 = .ok (.tableswitch 109 0 6 #[41, 51, 61, 71, 80, 90, 100], 41) := by decide +kernel
theorem dX10_of_52 : decode cX10_of 52 = .ok (.aload_n 0, 1) := by decide +kernel
theorem dX10_of_53 : decode cX10_of 53 = .ok (.getfield 10, 3) := by decide +kernel
theorem dX10_of_56 : decode cX10_of 56 = .ok (.getfield 117, 3) := by decide +kernel
theorem dX10_of_59 : decode cX10_of 59 = .ok (.iload_n 1, 1) := by decide +kernel
theorem dX10_of_60 : decode cX10_of 60 = .ok (.iaload, 1) := by decide +kernel
theorem dX10_of_61 : decode cX10_of 61 = .ok (.ireturn, 1) := by decide +kernel
theorem dX10_of_62 : decode cX10_of 62 = .ok (.aload_n 0, 1) := by decide +kernel
theorem dX10_of_63 : decode cX10_of 63 = .ok (.getfield 10, 3) := by decide +kernel
theorem dX10_of_66 : decode cX10_of 66 = .ok (.getfield 114, 3) := by decide +kernel
theorem dX10_of_69 : decode cX10_of 69 = .ok (.iload_n 1, 1) := by decide +kernel
theorem dX10_of_70 : decode cX10_of 70 = .ok (.iaload, 1) := by decide +kernel
theorem dX10_of_71 : decode cX10_of 71 = .ok (.ireturn, 1) := by decide +kernel
theorem dX10_of_72 : decode cX10_of 72 = .ok (.aload_n 0, 1) := by decide +kernel
theorem dX10_of_73 : decode cX10_of 73 = .ok (.getfield 10, 3) := by decide +kernel
theorem dX10_of_76 : decode cX10_of 76 = .ok (.getfield 163, 3) := by decide +kernel
theorem dX10_of_79 : decode cX10_of 79 = .ok (.iload_n 1, 1) := by decide +kernel
theorem dX10_of_80 : decode cX10_of 80 = .ok (.iaload, 1) := by decide +kernel
theorem dX10_of_81 : decode cX10_of 81 = .ok (.ireturn, 1) := by decide +kernel
theorem dX10_of_82 : decode cX10_of 82 = .ok (.aload_n 0, 1) := by decide +kernel
theorem dX10_of_83 : decode cX10_of 83 = .ok (.getfield 10, 3) := by decide +kernel
theorem dX10_of_86 : decode cX10_of 86 = .ok (.iload_n 1, 1) := by decide +kernel
theorem dX10_of_87 : decode cX10_of 87 = .ok (.invokevirtual 166, 3) := by decide +kernel
theorem dX10_of_90 : decode cX10_of 90 = .ok (.ireturn, 1) := by decide +kernel
theorem dX10_of_91 : decode cX10_of 91 = .ok (.aload_n 0, 1) := by decide +kernel
theorem dX10_of_92 : decode cX10_of 92 = .ok (.getfield 10, 3) := by decide +kernel
theorem dX10_of_95 : decode cX10_of 95 = .ok (.getfield 169, 3) := by decide +kernel
theorem dX10_of_98 : decode cX10_of 98 = .ok (.iload_n 1, 1) := by decide +kernel
theorem dX10_of_99 : decode cX10_of 99 = .ok (.iaload, 1) := by decide +kernel
theorem dX10_of_100 : decode cX10_of 100 = .ok (.ireturn, 1) := by decide +kernel
theorem dX10_of_101 : decode cX10_of 101 = .ok (.aload_n 0, 1) := by decide +kernel
theorem dX10_of_102 : decode cX10_of 102 = .ok (.getfield 10, 3) := by decide +kernel
theorem dX10_of_105 : decode cX10_of 105 = .ok (.getfield 172, 3) := by decide +kernel
theorem dX10_of_108 : decode cX10_of 108 = .ok (.iload_n 1, 1) := by decide +kernel
theorem dX10_of_109 : decode cX10_of 109 = .ok (.iaload, 1) := by decide +kernel
theorem dX10_of_110 : decode cX10_of 110 = .ok (.ireturn, 1) := by decide +kernel
theorem dX10_of_111 : decode cX10_of 111 = .ok (.aload_n 0, 1) := by decide +kernel
theorem dX10_of_112 : decode cX10_of 112 = .ok (.getfield 10, 3) := by decide +kernel
theorem dX10_of_115 : decode cX10_of 115 = .ok (.iload_n 1, 1) := by decide +kernel
theorem dX10_of_116 : decode cX10_of 116 = .ok (.invokevirtual 175, 3) := by decide +kernel
theorem dX10_of_119 : decode cX10_of 119 = .ok (.ireturn, 1) := by decide +kernel
theorem dX10_of_120 : decode cX10_of 120 = .ok (.iconst (-1), 1) := by decide +kernel
theorem dX10_of_121 : decode cX10_of 121 = .ok (.ireturn, 1) := by decide +kernel
theorem dX10_outcome_0 : decode cX10_outcome 0 = .ok (.iload_n 1, 1) := by decide +kernel
theorem dX10_outcome_1 : decode cX10_outcome 1 = .ok (.ifCond .lt 10, 3) := by decide +kernel
theorem dX10_outcome_4 : decode cX10_outcome 4 = .ok (.iload_n 2, 1) := by decide +kernel
theorem dX10_outcome_5 : decode cX10_outcome 5 = .ok (.invokestatic 92, 3) := by decide +kernel
theorem dX10_outcome_8 : decode cX10_outcome 8 = .ok (.ifCond .ne 6, 3) := by decide +kernel
theorem dX10_outcome_11 : decode cX10_outcome 11 = .ok (.bipush (-100), 2) := by decide +kernel
theorem dX10_outcome_13 : decode cX10_outcome 13 = .ok (.ireturn, 1) := by decide +kernel
theorem dX10_outcome_14 : decode cX10_outcome 14 = .ok (.aload_n 0, 1) := by decide +kernel
theorem dX10_outcome_15 : decode cX10_outcome 15 = .ok (.getfield 52, 3) := by decide +kernel
theorem dX10_outcome_18 : decode cX10_outcome 18 = .ok (.aload_n 0, 1) := by decide +kernel
theorem dX10_outcome_19 : decode cX10_outcome 19 = .ok (.getfield 10, 3) := by decide +kernel
theorem dX10_outcome_22 : decode cX10_outcome 22 = .ok (.aload_n 0, 1) := by decide +kernel
theorem dX10_outcome_23 : decode cX10_outcome 23 = .ok (.getfield 45, 3) := by decide +kernel
theorem dX10_outcome_26 : decode cX10_outcome 26 = .ok (.invokevirtual 215, 3) := by decide +kernel
theorem dX10_outcome_29 : decode cX10_outcome 29 = .ok (.aload_n 0, 1) := by decide +kernel
theorem dX10_outcome_30 : decode cX10_outcome 30 = .ok (.getfield 52, 3) := by decide +kernel
theorem dX10_outcome_33 : decode cX10_outcome 33 = .ok (.iload_n 1, 1) := by decide +kernel
theorem dX10_outcome_34 : decode cX10_outcome 34 = .ok (.iload_n 2, 1) := by decide +kernel
theorem dX10_outcome_35 : decode cX10_outcome 35 = .ok (.invokevirtual 256, 3) := by decide +kernel
theorem dX10_outcome_38 : decode cX10_outcome 38 = .ok (.ireturn, 1) := by decide +kernel
theorem dX10_program_0 : decode cX10_program 0 = .ok (.aload_n 0, 1) := by decide +kernel
theorem dX10_program_1 : decode cX10_program 1 = .ok (.iload_n 1, 1) := by decide +kernel
theorem dX10_program_2 : decode cX10_program 2 = .ok (.invokevirtual 111, 3) := by decide +kernel
theorem dX10_program_5 : decode cX10_program 5 = .ok (.ifCond .ne 5, 3) := by decide +kernel
theorem dX10_program_8 : decode cX10_program 8 = .ok (.iconst (-1), 1) := by decide +kernel
theorem dX10_program_9 : decode cX10_program 9 = .ok (.ireturn, 1) := by decide +kernel
theorem dX10_program_10 : decode cX10_program 10 = .ok (.aload_n 0, 1) := by decide +kernel
theorem dX10_program_11 : decode cX10_program 11 = .ok (.getfield 10, 3) := by decide +kernel
theorem dX10_program_14 : decode cX10_program 14 = .ok (.getfield 114, 3) := by decide +kernel
theorem dX10_program_17 : decode cX10_program 17 = .ok (.iload_n 1, 1) := by decide +kernel
theorem dX10_program_18 : decode cX10_program 18 = .ok (.iaload, 1) := by decide +kernel
theorem dX10_program_19 : decode cX10_program 19 = .ok (.ifCond .ne 15, 3) := by decide +kernel
theorem dX10_program_22 : decode cX10_program 22 = .ok (.aload_n 0, 1) := by decide +kernel
theorem dX10_program_23 : decode cX10_program 23 = .ok (.getfield 10, 3) := by decide +kernel
theorem dX10_program_26 : decode cX10_program 26 = .ok (.getfield 117, 3) := by decide +kernel
theorem dX10_program_29 : decode cX10_program 29 = .ok (.iload_n 1, 1) := by decide +kernel
theorem dX10_program_30 : decode cX10_program 30 = .ok (.iaload, 1) := by decide +kernel
theorem dX10_program_31 : decode cX10_program 31 = .ok (.ifCond .eq 6, 3) := by decide +kernel
theorem dX10_program_34 : decode cX10_program 34 = .ok (.bipush (-3), 2) := by decide +kernel
theorem dX10_program_36 : decode cX10_program 36 = .ok (.ireturn, 1) := by decide +kernel
theorem dX10_program_37 : decode cX10_program 37 = .ok (.aload_n 0, 1) := by decide +kernel
theorem dX10_program_38 : decode cX10_program 38 = .ok (.getfield 26, 3) := by decide +kernel
theorem dX10_program_41 : decode cX10_program 41 = .ok (.invokevirtual 120, 3) := by decide +kernel
theorem dX10_program_44 : decode cX10_program 44 = .ok (.istore_n 2, 1) := by decide +kernel
theorem dX10_program_45 : decode cX10_program 45 = .ok (.aload_n 0, 1) := by decide +kernel
theorem dX10_program_46 : decode cX10_program 46 = .ok (.getfield 34, 3) := by decide +kernel
theorem dX10_program_49 : decode cX10_program 49 = .ok (.iconst 0, 1) := by decide +kernel
theorem dX10_program_50 : decode cX10_program 50 = .ok (.putfield 102, 3) := by decide +kernel
theorem dX10_program_53 : decode cX10_program 53 = .ok (.iload_n 2, 1) := by decide +kernel
theorem dX10_program_54 : decode cX10_program 54 = .ok (.iconst (-1), 1) := by decide +kernel
theorem dX10_program_55 : decode cX10_program 55 = .ok (.if_icmp .eq 27, 3) := by decide +kernel
theorem dX10_program_58 : decode cX10_program 58 = .ok (.aload_n 0, 1) := by decide +kernel
theorem dX10_program_59 : decode cX10_program 59 = .ok (.getfield 38, 3) := by decide +kernel
theorem dX10_program_62 : decode cX10_program 62 = .ok (.iload_n 1, 1) := by decide +kernel
theorem dX10_program_63 : decode cX10_program 63 = .ok (.aload_n 0, 1) := by decide +kernel
theorem dX10_program_64 : decode cX10_program 64 = .ok (.getfield 26, 3) := by decide +kernel
theorem dX10_program_67 : decode cX10_program 67 = .ok (.getfield 123, 3) := by decide +kernel
theorem dX10_program_70 : decode cX10_program 70 = .ok (.getfield 127, 3) := by decide +kernel
theorem dX10_program_73 : decode cX10_program 73 = .ok (.iload_n 2, 1) := by decide +kernel
theorem dX10_program_74 : decode cX10_program 74 = .ok (.invokevirtual 130, 3) := by decide +kernel
theorem dX10_program_77 : decode cX10_program 77 = .ok (.bipush (-100), 2) := by decide +kernel
theorem dX10_program_79 : decode cX10_program 79 = .ok (.iload_n 2, 1) := by decide +kernel
theorem dX10_program_80 : decode cX10_program 80 = .ok (.isub, 1) := by decide +kernel
theorem dX10_program_81 : decode cX10_program 81 = .ok (.ireturn, 1) := by decide +kernel
theorem dX10_program_82 : decode cX10_program 82 = .ok (.aload_n 0, 1) := by decide +kernel
theorem dX10_program_83 : decode cX10_program 83 = .ok (.getfield 52, 3) := by decide +kernel
theorem dX10_program_86 : decode cX10_program 86 = .ok (.invokevirtual 67, 3) := by decide +kernel
theorem dX10_program_89 : decode cX10_program 89 = .ok (.aload_n 0, 1) := by decide +kernel
theorem dX10_program_90 : decode cX10_program 90 = .ok (.getfield 10, 3) := by decide +kernel
theorem dX10_program_93 : decode cX10_program 93 = .ok (.getfield 134, 3) := by decide +kernel
theorem dX10_program_96 : decode cX10_program 96 = .ok (.iload_n 1, 1) := by decide +kernel
theorem dX10_program_97 : decode cX10_program 97 = .ok (.aaload, 1) := by decide +kernel
theorem dX10_program_98 : decode cX10_program 98 = .ok (.aload_n 0, 1) := by decide +kernel
theorem dX10_program_99 : decode cX10_program 99 = .ok (.getfield 26, 3) := by decide +kernel
theorem dX10_program_102 : decode cX10_program 102 = .ok (.getfield 123, 3) := by decide +kernel
theorem dX10_program_105 : decode cX10_program 105 = .ok (.invokevirtual 138, 3) := by decide +kernel
theorem dX10_program_108 : decode cX10_program 108 = .ok (.aload_n 0, 1) := by decide +kernel
theorem dX10_program_109 : decode cX10_program 109 = .ok (.getfield 10, 3) := by decide +kernel
theorem dX10_program_112 : decode cX10_program 112 = .ok (.getfield 134, 3) := by decide +kernel
theorem dX10_program_115 : decode cX10_program 115 = .ok (.iload_n 1, 1) := by decide +kernel
theorem dX10_program_116 : decode cX10_program 116 = .ok (.aaload, 1) := by decide +kernel
theorem dX10_program_117 : decode cX10_program 117 = .ok (.getfield 127, 3) := by decide +kernel
theorem dX10_program_120 : decode cX10_program 120 = .ok (.ireturn, 1) := by decide +kernel
theorem dX10_put_0 : decode cX10_put 0 = .ok (.iload_n 1, 1) := by decide +kernel
theorem dX10_put_1 : decode cX10_put 1 = .ok (.invokestatic 92, 3) := by decide +kernel
theorem dX10_put_4 : decode cX10_put 4 = .ok (.ifCond .eq 10, 3) := by decide +kernel
theorem dX10_put_7 : decode cX10_put 7 = .ok (.iload_n 2, 1) := by decide +kernel
theorem dX10_put_8 : decode cX10_put 8 = .ok (.invokestatic 95, 3) := by decide +kernel
theorem dX10_put_11 : decode cX10_put 11 = .ok (.ifCond .ne 6, 3) := by decide +kernel
theorem dX10_put_14 : decode cX10_put 14 = .ok (.bipush (-100), 2) := by decide +kernel
theorem dX10_put_16 : decode cX10_put 16 = .ok (.ireturn, 1) := by decide +kernel
theorem dX10_put_17 : decode cX10_put 17 = .ok (.aload_n 0, 1) := by decide +kernel
theorem dX10_put_18 : decode cX10_put 18 = .ok (.getfield 10, 3) := by decide +kernel
theorem dX10_put_21 : decode cX10_put 21 = .ok (.getfield 98, 3) := by decide +kernel
theorem dX10_put_24 : decode cX10_put 24 = .ok (.iload_n 1, 1) := by decide +kernel
theorem dX10_put_25 : decode cX10_put 25 = .ok (.iaload, 1) := by decide +kernel
theorem dX10_put_26 : decode cX10_put 26 = .ok (.istore_n 3, 1) := by decide +kernel
theorem dX10_put_27 : decode cX10_put 27 = .ok (.aload_n 0, 1) := by decide +kernel
theorem dX10_put_28 : decode cX10_put 28 = .ok (.getfield 52, 3) := by decide +kernel
theorem dX10_put_31 : decode cX10_put 31 = .ok (.invokevirtual 67, 3) := by decide +kernel
theorem dX10_put_34 : decode cX10_put 34 = .ok (.aload_n 0, 1) := by decide +kernel
theorem dX10_put_35 : decode cX10_put 35 = .ok (.getfield 10, 3) := by decide +kernel
theorem dX10_put_38 : decode cX10_put 38 = .ok (.getfield 98, 3) := by decide +kernel
theorem dX10_put_41 : decode cX10_put 41 = .ok (.iload_n 1, 1) := by decide +kernel
theorem dX10_put_42 : decode cX10_put 42 = .ok (.iload_n 2, 1) := by decide +kernel
theorem dX10_put_43 : decode cX10_put 43 = .ok (.iastore, 1) := by decide +kernel
theorem dX10_put_44 : decode cX10_put 44 = .ok (.iload_n 3, 1) := by decide +kernel
theorem dX10_put_45 : decode cX10_put 45 = .ok (.ireturn, 1) := by decide +kernel
theorem dX10_restart_0 : decode cX10_restart 0 = .ok (.aload_n 0, 1) := by decide +kernel
theorem dX10_restart_1 : decode cX10_restart 1 = .ok (.getfield 52, 3) := by decide +kernel
theorem dX10_restart_4 : decode cX10_restart 4 = .ok (.invokevirtual 67, 3) := by decide +kernel
theorem dX10_restart_7 : decode cX10_restart 7 = .ok (.aload_n 0, 1) := by decide +kernel
theorem dX10_restart_8 : decode cX10_restart 8 = .ok (.getfield 10, 3) := by decide +kernel
theorem dX10_restart_11 : decode cX10_restart 11 = .ok (.invokevirtual 74, 3) := by decide +kernel
theorem dX10_restart_14 : decode cX10_restart 14 = .ok (.aload_n 0, 1) := by decide +kernel
theorem dX10_restart_15 : decode cX10_restart 15 = .ok (.getfield 10, 3) := by decide +kernel
theorem dX10_restart_18 : decode cX10_restart 18 = .ok (.getfield 63, 3) := by decide +kernel
theorem dX10_restart_21 : decode cX10_restart 21 = .ok (.ireturn, 1) := by decide +kernel
theorem dX10_round_0 : decode cX10_round 0 = .ok (.aload_n 0, 1) := by decide +kernel
theorem dX10_round_1 : decode cX10_round 1 = .ok (.getfield 52, 3) := by decide +kernel
theorem dX10_round_4 : decode cX10_round 4 = .ok (.aload_n 0, 1) := by decide +kernel
theorem dX10_round_5 : decode cX10_round 5 = .ok (.getfield 10, 3) := by decide +kernel
theorem dX10_round_8 : decode cX10_round 8 = .ok (.aload_n 0, 1) := by decide +kernel
theorem dX10_round_9 : decode cX10_round 9 = .ok (.getfield 45, 3) := by decide +kernel
theorem dX10_round_12 : decode cX10_round 12 = .ok (.invokevirtual 215, 3) := by decide +kernel
theorem dX10_round_15 : decode cX10_round 15 = .ok (.aload_n 0, 1) := by decide +kernel
theorem dX10_round_16 : decode cX10_round 16 = .ok (.getfield 52, 3) := by decide +kernel
theorem dX10_round_19 : decode cX10_round 19 = .ok (.invokevirtual 262, 3) := by decide +kernel
theorem dX10_round_22 : decode cX10_round 22 = .ok (.invokestatic 88, 3) := by decide +kernel
theorem dX10_round_25 : decode cX10_round 25 = .ok (.ireturn, 1) := by decide +kernel
theorem dX10_run_0 : decode cX10_run 0 = .ok (.iload_n 1, 1) := by decide +kernel
theorem dX10_run_1 : decode cX10_run 1 = .ok (.ifCond .lt 8, 3) := by decide +kernel
theorem dX10_run_4 : decode cX10_run 4 = .ok (.iload_n 1, 1) := by decide +kernel
theorem dX10_run_5 : decode cX10_run 5 = .ok (.iconst 2, 1) := by decide +kernel
theorem dX10_run_6 : decode cX10_run 6 = .ok (.if_icmp .le 5, 3) := by decide +kernel
theorem dX10_run_9 : decode cX10_run 9 = .ok (.iconst (-1), 1) := by decide +kernel
theorem dX10_run_10 : decode cX10_run 10 = .ok (.ireturn, 1) := by decide +kernel
theorem dX10_run_11 : decode cX10_run 11 = .ok (.iload_n 2, 1) := by decide +kernel
theorem dX10_run_12 : decode cX10_run 12 = .ok (.ifCond .lt 9, 3) := by decide +kernel
theorem dX10_run_15 : decode cX10_run 15 = .ok (.iload_n 2, 1) := by decide +kernel
theorem dX10_run_16 : decode cX10_run 16 = .ok (.bipush 40, 2) := by decide +kernel
theorem dX10_run_18 : decode cX10_run 18 = .ok (.if_icmp .le 6, 3) := by decide +kernel
theorem dX10_run_21 : decode cX10_run 21 = .ok (.bipush (-2), 2) := by decide +kernel
theorem dX10_run_23 : decode cX10_run 23 = .ok (.ireturn, 1) := by decide +kernel
theorem dX10_run_24 : decode cX10_run 24 = .ok (.iconst 0, 1) := by decide +kernel
theorem dX10_run_25 : decode cX10_run 25 = .ok (.istore_n 3, 1) := by decide +kernel
theorem dX10_run_26 : decode cX10_run 26 = .ok (.iload_n 3, 1) := by decide +kernel
theorem dX10_run_27 : decode cX10_run 27 = .ok (.iload_n 2, 1) := by decide +kernel
theorem dX10_run_28 : decode cX10_run 28 = .ok (.if_icmp .ge 36, 3) := by decide +kernel
theorem dX10_run_31 : decode cX10_run 31 = .ok (.aload_n 0, 1) := by decide +kernel
theorem dX10_run_32 : decode cX10_run 32 = .ok (.getfield 10, 3) := by decide +kernel
theorem dX10_run_35 : decode cX10_run 35 = .ok (.iload_n 1, 1) := by decide +kernel
theorem dX10_run_36 : decode cX10_run 36 = .ok (.invokevirtual 149, 3) := by decide +kernel
theorem dX10_run_39 : decode cX10_run 39 = .ok (.istore 4, 2) := by decide +kernel
theorem dX10_run_41 : decode cX10_run 41 = .ok (.aload_n 0, 1) := by decide +kernel
theorem dX10_run_42 : decode cX10_run 42 = .ok (.iload 4, 2) := by decide +kernel
theorem dX10_run_44 : decode cX10_run 44 = .ok (.invokevirtual 111, 3) := by decide +kernel
theorem dX10_run_47 : decode cX10_run 47 = .ok (.ifCond .ne 5, 3) := by decide +kernel
theorem dX10_run_50 : decode cX10_run 50 = .ok (.iload_n 3, 1) := by decide +kernel
theorem dX10_run_51 : decode cX10_run 51 = .ok (.ireturn, 1) := by decide +kernel
theorem dX10_run_52 : decode cX10_run 52 = .ok (.aload_n 0, 1) := by decide +kernel
theorem dX10_run_53 : decode cX10_run 53 = .ok (.iload 4, 2) := by decide +kernel
theorem dX10_run_55 : decode cX10_run 55 = .ok (.invokevirtual 146, 3) := by decide +kernel
theorem dX10_run_58 : decode cX10_run 58 = .ok (.iinc 3 1, 3) := by decide +kernel
theorem dX10_run_61 : decode cX10_run 61 = .ok (.goto (-35), 3) := by decide +kernel
theorem dX10_run_64 : decode cX10_run 64 = .ok (.iload_n 2, 1) := by decide +kernel
theorem dX10_run_65 : decode cX10_run 65 = .ok (.ireturn, 1) := by decide +kernel
theorem dX10_schedule_0 : decode cX10_schedule 0 = .ok (.iload_n 1, 1) := by decide +kernel
theorem dX10_schedule_1 : decode cX10_schedule 1 = .ok (.ifCond .lt 8, 3) := by decide +kernel
theorem dX10_schedule_4 : decode cX10_schedule 4 = .ok (.iload_n 1, 1) := by decide +kernel
theorem dX10_schedule_5 : decode cX10_schedule 5 = .ok (.iconst 1, 1) := by decide +kernel
theorem dX10_schedule_6 : decode cX10_schedule 6 = .ok (.if_icmp .le 5, 3) := by decide +kernel
theorem dX10_schedule_9 : decode cX10_schedule 9 = .ok (.iconst (-1), 1) := by decide +kernel
theorem dX10_schedule_10 : decode cX10_schedule 10 = .ok (.ireturn, 1) := by decide +kernel
theorem dX10_schedule_11 : decode cX10_schedule 11 = .ok (.aload_n 0, 1) := by decide +kernel
theorem dX10_schedule_12 : decode cX10_schedule 12 = .ok (.getfield 52, 3) := by decide +kernel
theorem dX10_schedule_15 : decode cX10_schedule 15 = .ok (.aload_n 0, 1) := by decide +kernel
theorem dX10_schedule_16 : decode cX10_schedule 16 = .ok (.getfield 10, 3) := by decide +kernel
theorem dX10_schedule_19 : decode cX10_schedule 19 = .ok (.aload_n 0, 1) := by decide +kernel
theorem dX10_schedule_20 : decode cX10_schedule 20 = .ok (.getfield 45, 3) := by decide +kernel
theorem dX10_schedule_23 : decode cX10_schedule 23 = .ok (.invokevirtual 215, 3) := by decide +kernel
theorem dX10_schedule_26 : decode cX10_schedule 26 = .ok (.aload_n 0, 1) := by decide +kernel
theorem dX10_schedule_27 : decode cX10_schedule 27 = .ok (.getfield 52, 3) := by decide +kernel
theorem dX10_schedule_30 : decode cX10_schedule 30 = .ok (.iload_n 1, 1) := by decide +kernel
theorem dX10_schedule_31 : decode cX10_schedule 31 = .ok (.ifCond .ne 13, 3) := by decide +kernel
theorem dX10_schedule_34 : decode cX10_schedule 34 = .ok (.aload_n 0, 1) := by decide +kernel
theorem dX10_schedule_35 : decode cX10_schedule 35 = .ok (.getfield 52, 3) := by decide +kernel
theorem dX10_schedule_38 : decode cX10_schedule 38 = .ok (.getfield 238, 3) := by decide +kernel
theorem dX10_schedule_41 : decode cX10_schedule 41 = .ok (.goto 10, 3) := by decide +kernel
theorem dX10_schedule_44 : decode cX10_schedule 44 = .ok (.aload_n 0, 1) := by decide +kernel
theorem dX10_schedule_45 : decode cX10_schedule 45 = .ok (.getfield 52, 3) := by decide +kernel
theorem dX10_schedule_48 : decode cX10_schedule 48 = .ok (.getfield 244, 3) := by decide +kernel
theorem dX10_schedule_51 : decode cX10_schedule 51 = .ok (.iload_n 2, 1) := by decide +kernel
theorem dX10_schedule_52 : decode cX10_schedule 52 = .ok (.invokevirtual 253, 3) := by decide +kernel
theorem dX10_schedule_55 : decode cX10_schedule 55 = .ok (.istore_n 3, 1) := by decide +kernel
theorem dX10_schedule_56 : decode cX10_schedule 56 = .ok (.iload_n 3, 1) := by decide +kernel
theorem dX10_schedule_57 : decode cX10_schedule 57 = .ok (.iconst (-1), 1) := by decide +kernel
theorem dX10_schedule_58 : decode cX10_schedule 58 = .ok (.if_icmp .ne 7, 3) := by decide +kernel
theorem dX10_schedule_61 : decode cX10_schedule 61 = .ok (.iconst (-1), 1) := by decide +kernel
theorem dX10_schedule_62 : decode cX10_schedule 62 = .ok (.goto 4, 3) := by decide +kernel
theorem dX10_schedule_65 : decode cX10_schedule 65 = .ok (.iload_n 3, 1) := by decide +kernel
theorem dX10_schedule_66 : decode cX10_schedule 66 = .ok (.ireturn, 1) := by decide +kernel
theorem dX10_set_0 : decode cX10_set 0 = .ok (.aload_n 0, 1) := by decide +kernel
theorem dX10_set_1 : decode cX10_set 1 = .ok (.getfield 59, 3) := by decide +kernel
theorem dX10_set_4 : decode cX10_set 4 = .ok (.iload_n 1, 1) := by decide +kernel
theorem dX10_set_5 : decode cX10_set 5 = .ok (.invokevirtual 153, 3) := by decide +kernel
theorem dX10_set_8 : decode cX10_set 8 = .ok (.istore 4, 2) := by decide +kernel
theorem dX10_set_10 : decode cX10_set 10 = .ok (.iload 4, 2) := by decide +kernel
theorem dX10_set_12 : decode cX10_set 12 = .ok (.ifCond .eq 6, 3) := by decide +kernel
theorem dX10_set_15 : decode cX10_set 15 = .ok (.iload 4, 2) := by decide +kernel
theorem dX10_set_17 : decode cX10_set 17 = .ok (.ireturn, 1) := by decide +kernel
theorem dX10_set_18 : decode cX10_set 18 = .ok (.aload_n 0, 1) := by decide +kernel
theorem dX10_set_19 : decode cX10_set 19 = .ok (.getfield 59, 3) := by decide +kernel
theorem dX10_set_22 : decode cX10_set 22 = .ok (.iload_n 1, 1) := by decide +kernel
theorem dX10_set_23 : decode cX10_set 23 = .ok (.iload_n 2, 1) := by decide +kernel
theorem dX10_set_24 : decode cX10_set 24 = .ok (.invokevirtual 278, 3) := by decide +kernel
theorem dX10_set_27 : decode cX10_set 27 = .ok (.ifCond .ne 6, 3) := by decide +kernel
theorem dX10_set_30 : decode cX10_set 30 = .ok (.bipush (-13), 2) := by decide +kernel
theorem dX10_set_32 : decode cX10_set 32 = .ok (.ireturn, 1) := by decide +kernel
theorem dX10_set_33 : decode cX10_set 33 = .ok (.aload_n 0, 1) := by decide +kernel
theorem dX10_set_34 : decode cX10_set 34 = .ok (.getfield 59, 3) := by decide +kernel
theorem dX10_set_37 : decode cX10_set 37 = .ok (.getfield 159, 3) := by decide +kernel
theorem dX10_set_40 : decode cX10_set 40 = .ok (.iload_n 1, 1) := by decide +kernel
theorem dX10_set_41 : decode cX10_set 41 = .ok (.aaload, 1) := by decide +kernel
theorem dX10_set_42 : decode cX10_set 42 = .ok (.iload_n 2, 1) := by decide +kernel
theorem dX10_set_43 : decode cX10_set 43 = .ok (.iload_n 3, 1) := by decide +kernel
theorem dX10_set_44 : decode cX10_set 44 = .ok (.iastore, 1) := by decide +kernel
theorem dX10_set_45 : decode cX10_set 45 = .ok (.iconst 1, 1) := by decide +kernel
theorem dX10_set_46 : decode cX10_set 46 = .ok (.ireturn, 1) := by decide +kernel
theorem dX10_stands_0 : decode cX10_stands 0 = .ok (.iload_n 1, 1) := by decide +kernel
theorem dX10_stands_1 : decode cX10_stands 1 = .ok (.invokestatic 77, 3) := by decide +kernel
theorem dX10_stands_4 : decode cX10_stands 4 = .ok (.ifCond .eq 12, 3) := by decide +kernel
theorem dX10_stands_7 : decode cX10_stands 7 = .ok (.iload_n 2, 1) := by decide +kernel
theorem dX10_stands_8 : decode cX10_stands 8 = .ok (.ifCond .lt 8, 3) := by decide +kernel
theorem dX10_stands_11 : decode cX10_stands 11 = .ok (.iload_n 2, 1) := by decide +kernel
theorem dX10_stands_12 : decode cX10_stands 12 = .ok (.iconst 1, 1) := by decide +kernel
theorem dX10_stands_13 : decode cX10_stands 13 = .ok (.if_icmp .le 5, 3) := by decide +kernel
theorem dX10_stands_16 : decode cX10_stands 16 = .ok (.iconst (-1), 1) := by decide +kernel
theorem dX10_stands_17 : decode cX10_stands 17 = .ok (.ireturn, 1) := by decide +kernel
theorem dX10_stands_18 : decode cX10_stands 18 = .ok (.iload_n 2, 1) := by decide +kernel
theorem dX10_stands_19 : decode cX10_stands 19 = .ok (.ifCond .ne 15, 3) := by decide +kernel
theorem dX10_stands_22 : decode cX10_stands 22 = .ok (.aload_n 0, 1) := by decide +kernel
theorem dX10_stands_23 : decode cX10_stands 23 = .ok (.getfield 10, 3) := by decide +kernel
theorem dX10_stands_26 : decode cX10_stands 26 = .ok (.getfield 184, 3) := by decide +kernel
theorem dX10_stands_29 : decode cX10_stands 29 = .ok (.iload_n 1, 1) := by decide +kernel
theorem dX10_stands_30 : decode cX10_stands 30 = .ok (.iaload, 1) := by decide +kernel
theorem dX10_stands_31 : decode cX10_stands 31 = .ok (.goto 12, 3) := by decide +kernel
theorem dX10_stands_34 : decode cX10_stands 34 = .ok (.aload_n 0, 1) := by decide +kernel
theorem dX10_stands_35 : decode cX10_stands 35 = .ok (.getfield 10, 3) := by decide +kernel
theorem dX10_stands_38 : decode cX10_stands 38 = .ok (.getfield 192, 3) := by decide +kernel
theorem dX10_stands_41 : decode cX10_stands 41 = .ok (.iload_n 1, 1) := by decide +kernel
theorem dX10_stands_42 : decode cX10_stands 42 = .ok (.iaload, 1) := by decide +kernel
theorem dX10_stands_43 : decode cX10_stands 43 = .ok (.iload_n 3, 1) := by decide +kernel
theorem dX10_stands_44 : decode cX10_stands 44 = .ok (.invokestatic 195, 3) := by decide +kernel
theorem dX10_stands_47 : decode cX10_stands 47 = .ok (.istore 4, 2) := by decide +kernel
theorem dX10_stands_49 : decode cX10_stands 49 = .ok (.iload 4, 2) := by decide +kernel
theorem dX10_stands_51 : decode cX10_stands 51 = .ok (.iconst (-1), 1) := by decide +kernel
theorem dX10_stands_52 : decode cX10_stands 52 = .ok (.if_icmp .ne 7, 3) := by decide +kernel
theorem dX10_stands_55 : decode cX10_stands 55 = .ok (.iconst (-1), 1) := by decide +kernel
theorem dX10_stands_56 : decode cX10_stands 56 = .ok (.goto 5, 3) := by decide +kernel
theorem dX10_stands_59 : decode cX10_stands 59 = .ok (.iload 4, 2) := by decide +kernel
theorem dX10_stands_61 : decode cX10_stands 61 = .ok (.ireturn, 1) := by decide +kernel
theorem dX10_statement_0 : decode cX10_statement 0 = .ok (.aload_n 0, 1) := by decide +kernel
theorem dX10_statement_1 : decode cX10_statement 1 = .ok (.iload_n 1, 1) := by decide +kernel
theorem dX10_statement_2 : decode cX10_statement 2 = .ok (.invokevirtual 111, 3) := by decide +kernel
theorem dX10_statement_5 : decode cX10_statement 5 = .ok (.ifCond .eq 20, 3) := by decide +kernel
theorem dX10_statement_8 : decode cX10_statement 8 = .ok (.aload_n 0, 1) := by decide +kernel
theorem dX10_statement_9 : decode cX10_statement 9 = .ok (.getfield 10, 3) := by decide +kernel
theorem dX10_statement_12 : decode cX10_statement 12 = .ok (.getfield 134, 3) := by decide +kernel
theorem dX10_statement_15 : decode cX10_statement 15 = .ok (.iload_n 1, 1) := by decide +kernel
theorem dX10_statement_16 : decode cX10_statement 16 = .ok (.aaload, 1) := by decide +kernel
theorem dX10_statement_17 : decode cX10_statement 17 = .ok (.iload_n 2, 1) := by decide +kernel
theorem dX10_statement_18 : decode cX10_statement 18 = .ok (.iload_n 3, 1) := by decide +kernel
theorem dX10_statement_19 : decode cX10_statement 19 = .ok (.invokevirtual 142, 3) := by decide +kernel
theorem dX10_statement_22 : decode cX10_statement 22 = .ok (.goto 5, 3) := by decide +kernel
theorem dX10_statement_25 : decode cX10_statement 25 = .ok (.bipush (-100), 2) := by decide +kernel
theorem dX10_statement_27 : decode cX10_statement 27 = .ok (.ireturn, 1) := by decide +kernel
theorem dX10_step_0 : decode cX10_step 0 = .ok (.aload_n 0, 1) := by decide +kernel
theorem dX10_step_1 : decode cX10_step 1 = .ok (.iload_n 1, 1) := by decide +kernel
theorem dX10_step_2 : decode cX10_step 2 = .ok (.invokevirtual 111, 3) := by decide +kernel
theorem dX10_step_5 : decode cX10_step 5 = .ok (.ifCond .ne 5, 3) := by decide +kernel
theorem dX10_step_8 : decode cX10_step 8 = .ok (.iconst (-1), 1) := by decide +kernel
theorem dX10_step_9 : decode cX10_step 9 = .ok (.ireturn, 1) := by decide +kernel
theorem dX10_step_10 : decode cX10_step 10 = .ok (.aload_n 0, 1) := by decide +kernel
theorem dX10_step_11 : decode cX10_step 11 = .ok (.getfield 10, 3) := by decide +kernel
theorem dX10_step_14 : decode cX10_step 14 = .ok (.getfield 117, 3) := by decide +kernel
theorem dX10_step_17 : decode cX10_step 17 = .ok (.iload_n 1, 1) := by decide +kernel
theorem dX10_step_18 : decode cX10_step 18 = .ok (.iaload, 1) := by decide +kernel
theorem dX10_step_19 : decode cX10_step 19 = .ok (.ifCond .eq 6, 3) := by decide +kernel
theorem dX10_step_22 : decode cX10_step 22 = .ok (.bipush (-3), 2) := by decide +kernel
theorem dX10_step_24 : decode cX10_step 24 = .ok (.ireturn, 1) := by decide +kernel
theorem dX10_step_25 : decode cX10_step 25 = .ok (.aload_n 0, 1) := by decide +kernel
theorem dX10_step_26 : decode cX10_step 26 = .ok (.iload_n 1, 1) := by decide +kernel
theorem dX10_step_27 : decode cX10_step 27 = .ok (.invokevirtual 146, 3) := by decide +kernel
theorem dX10_step_30 : decode cX10_step 30 = .ok (.aload_n 0, 1) := by decide +kernel
theorem dX10_step_31 : decode cX10_step 31 = .ok (.getfield 10, 3) := by decide +kernel
theorem dX10_step_34 : decode cX10_step 34 = .ok (.getfield 117, 3) := by decide +kernel
theorem dX10_step_37 : decode cX10_step 37 = .ok (.iload_n 1, 1) := by decide +kernel
theorem dX10_step_38 : decode cX10_step 38 = .ok (.iaload, 1) := by decide +kernel
theorem dX10_step_39 : decode cX10_step 39 = .ok (.ireturn, 1) := by decide +kernel
theorem dX10_takeTruly_0 : decode cX10_takeTruly 0 = .ok (.aload_n 0, 1) := by decide +kernel
theorem dX10_takeTruly_1 : decode cX10_takeTruly 1 = .ok (.getfield 52, 3) := by decide +kernel
theorem dX10_takeTruly_4 : decode cX10_takeTruly 4 = .ok (.invokevirtual 67, 3) := by decide +kernel
theorem dX10_takeTruly_7 : decode cX10_takeTruly 7 = .ok (.aload_n 0, 1) := by decide +kernel
theorem dX10_takeTruly_8 : decode cX10_takeTruly 8 = .ok (.getfield 10, 3) := by decide +kernel
theorem dX10_takeTruly_11 : decode cX10_takeTruly 11 = .ok (.iload_n 1, 1) := by decide +kernel
theorem dX10_takeTruly_12 : decode cX10_takeTruly 12 = .ok (.invokevirtual 289, 3) := by decide +kernel
theorem dX10_takeTruly_15 : decode cX10_takeTruly 15 = .ok (.aload_n 0, 1) := by decide +kernel
theorem dX10_takeTruly_16 : decode cX10_takeTruly 16 = .ok (.getfield 10, 3) := by decide +kernel
theorem dX10_takeTruly_19 : decode cX10_takeTruly 19 = .ok (.getfield 117, 3) := by decide +kernel
theorem dX10_takeTruly_22 : decode cX10_takeTruly 22 = .ok (.iload_n 1, 1) := by decide +kernel
theorem dX10_takeTruly_23 : decode cX10_takeTruly 23 = .ok (.iaload, 1) := by decide +kernel
theorem dX10_takeTruly_24 : decode cX10_takeTruly 24 = .ok (.iconst 4, 1) := by decide +kernel
theorem dX10_takeTruly_25 : decode cX10_takeTruly 25 = .ok (.if_icmp .ne 45, 3) := by decide +kernel
theorem dX10_takeTruly_28 : decode cX10_takeTruly 28 = .ok (.aload_n 0, 1) := by decide +kernel
theorem dX10_takeTruly_29 : decode cX10_takeTruly 29 = .ok (.getfield 10, 3) := by decide +kernel
theorem dX10_takeTruly_32 : decode cX10_takeTruly 32 = .ok (.getfield 114, 3) := by decide +kernel
theorem dX10_takeTruly_35 : decode cX10_takeTruly 35 = .ok (.iload_n 1, 1) := by decide +kernel
theorem dX10_takeTruly_36 : decode cX10_takeTruly 36 = .ok (.iaload, 1) := by decide +kernel
theorem dX10_takeTruly_37 : decode cX10_takeTruly 37 = .ok (.istore_n 2, 1) := by decide +kernel
theorem dX10_takeTruly_38 : decode cX10_takeTruly 38 = .ok (.aload_n 0, 1) := by decide +kernel
theorem dX10_takeTruly_39 : decode cX10_takeTruly 39 = .ok (.getfield 38, 3) := by decide +kernel
theorem dX10_takeTruly_42 : decode cX10_takeTruly 42 = .ok (.iload_n 1, 1) := by decide +kernel
theorem dX10_takeTruly_43 : decode cX10_takeTruly 43 = .ok (.iload_n 2, 1) := by decide +kernel
theorem dX10_takeTruly_44 : decode cX10_takeTruly 44 = .ok (.aload_n 0, 1) := by decide +kernel
theorem dX10_takeTruly_45 : decode cX10_takeTruly 45 = .ok (.getfield 10, 3) := by decide +kernel
theorem dX10_takeTruly_48 : decode cX10_takeTruly 48 = .ok (.getfield 169, 3) := by decide +kernel
theorem dX10_takeTruly_51 : decode cX10_takeTruly 51 = .ok (.iload_n 1, 1) := by decide +kernel
theorem dX10_takeTruly_52 : decode cX10_takeTruly 52 = .ok (.iaload, 1) := by decide +kernel
theorem dX10_takeTruly_53 : decode cX10_takeTruly 53 = .ok (.aload_n 0, 1) := by decide +kernel
theorem dX10_takeTruly_54 : decode cX10_takeTruly 54 = .ok (.getfield 10, 3) := by decide +kernel
theorem dX10_takeTruly_57 : decode cX10_takeTruly 57 = .ok (.getfield 134, 3) := by decide +kernel
theorem dX10_takeTruly_60 : decode cX10_takeTruly 60 = .ok (.iload_n 1, 1) := by decide +kernel
theorem dX10_takeTruly_61 : decode cX10_takeTruly 61 = .ok (.aaload, 1) := by decide +kernel
theorem dX10_takeTruly_62 : decode cX10_takeTruly 62 = .ok (.iload_n 2, 1) := by decide +kernel
theorem dX10_takeTruly_63 : decode cX10_takeTruly 63 = .ok (.iconst 1, 1) := by decide +kernel
theorem dX10_takeTruly_64 : decode cX10_takeTruly 64 = .ok (.invokevirtual 142, 3) := by decide +kernel
theorem dX10_takeTruly_67 : decode cX10_takeTruly 67 = .ok (.invokevirtual 292, 3) := by decide +kernel
theorem dX10_takeTruly_70 : decode cX10_takeTruly 70 = .ok (.return_, 1) := by decide +kernel
theorem dX10_task_0 : decode cX10_task 0 = .ok (.aload_n 0, 1) := by decide +kernel
theorem dX10_task_1 : decode cX10_task 1 = .ok (.getfield 10, 3) := by decide +kernel
theorem dX10_task_4 : decode cX10_task 4 = .ok (.getfield 63, 3) := by decide +kernel
theorem dX10_task_7 : decode cX10_task 7 = .ok (.iconst 4, 1) := by decide +kernel
theorem dX10_task_8 : decode cX10_task 8 = .ok (.if_icmp .lt 6, 3) := by decide +kernel
theorem dX10_task_11 : decode cX10_task 11 = .ok (.bipush (-4), 2) := by decide +kernel
theorem dX10_task_13 : decode cX10_task 13 = .ok (.ireturn, 1) := by decide +kernel
theorem dX10_task_14 : decode cX10_task 14 = .ok (.aload_n 0, 1) := by decide +kernel
theorem dX10_task_15 : decode cX10_task 15 = .ok (.getfield 52, 3) := by decide +kernel
theorem dX10_task_18 : decode cX10_task 18 = .ok (.invokevirtual 67, 3) := by decide +kernel
theorem dX10_task_21 : decode cX10_task 21 = .ok (.aload_n 0, 1) := by decide +kernel
theorem dX10_task_22 : decode cX10_task 22 = .ok (.getfield 10, 3) := by decide +kernel
theorem dX10_task_25 : decode cX10_task 25 = .ok (.invokevirtual 70, 3) := by decide +kernel
theorem dX10_task_28 : decode cX10_task 28 = .ok (.ireturn, 1) := by decide +kernel
theorem dX10_told_0 : decode cX10_told 0 = .ok (.iload_n 1, 1) := by decide +kernel
theorem dX10_told_1 : decode cX10_told 1 = .ok (.tableswitch 109 0 5 #[39, 47, 55, 63, 74, 85], 39) := by decide +kernel
theorem dX10_told_40 : decode cX10_told 40 = .ok (.aload_n 0, 1) := by decide +kernel
theorem dX10_told_41 : decode cX10_told 41 = .ok (.getfield 10, 3) := by decide +kernel
theorem dX10_told_44 : decode cX10_told 44 = .ok (.getfield 63, 3) := by decide +kernel
theorem dX10_told_47 : decode cX10_told 47 = .ok (.ireturn, 1) := by decide +kernel
theorem dX10_told_48 : decode cX10_told 48 = .ok (.aload_n 0, 1) := by decide +kernel
theorem dX10_told_49 : decode cX10_told 49 = .ok (.getfield 34, 3) := by decide +kernel
theorem dX10_told_52 : decode cX10_told 52 = .ok (.getfield 102, 3) := by decide +kernel
theorem dX10_told_55 : decode cX10_told 55 = .ok (.ireturn, 1) := by decide +kernel
theorem dX10_told_56 : decode cX10_told 56 = .ok (.aload_n 0, 1) := by decide +kernel
theorem dX10_told_57 : decode cX10_told 57 = .ok (.getfield 45, 3) := by decide +kernel
theorem dX10_told_60 : decode cX10_told 60 = .ok (.getfield 201, 3) := by decide +kernel
theorem dX10_told_63 : decode cX10_told 63 = .ok (.ireturn, 1) := by decide +kernel
theorem dX10_told_64 : decode cX10_told 64 = .ok (.aload_n 0, 1) := by decide +kernel
theorem dX10_told_65 : decode cX10_told 65 = .ok (.getfield 10, 3) := by decide +kernel
theorem dX10_told_68 : decode cX10_told 68 = .ok (.invokevirtual 202, 3) := by decide +kernel
theorem dX10_told_71 : decode cX10_told 71 = .ok (.invokestatic 88, 3) := by decide +kernel
theorem dX10_told_74 : decode cX10_told 74 = .ok (.ireturn, 1) := by decide +kernel
theorem dX10_told_75 : decode cX10_told 75 = .ok (.aload_n 0, 1) := by decide +kernel
theorem dX10_told_76 : decode cX10_told 76 = .ok (.getfield 10, 3) := by decide +kernel
theorem dX10_told_79 : decode cX10_told 79 = .ok (.invokevirtual 206, 3) := by decide +kernel
theorem dX10_told_82 : decode cX10_told 82 = .ok (.invokestatic 88, 3) := by decide +kernel
theorem dX10_told_85 : decode cX10_told 85 = .ok (.ireturn, 1) := by decide +kernel
theorem dX10_told_86 : decode cX10_told 86 = .ok (.aload_n 0, 1) := by decide +kernel
theorem dX10_told_87 : decode cX10_told 87 = .ok (.getfield 10, 3) := by decide +kernel
theorem dX10_told_90 : decode cX10_told 90 = .ok (.getfield 209, 3) := by decide +kernel
theorem dX10_told_93 : decode cX10_told 93 = .ok (.iconst (-1), 1) := by decide +kernel
theorem dX10_told_94 : decode cX10_told 94 = .ok (.if_icmp .ne 8, 3) := by decide +kernel
theorem dX10_told_97 : decode cX10_told 97 = .ok (.bipush (-5), 2) := by decide +kernel
theorem dX10_told_99 : decode cX10_told 99 = .ok (.goto 10, 3) := by decide +kernel
theorem dX10_told_102 : decode cX10_told 102 = .ok (.aload_n 0, 1) := by decide +kernel
theorem dX10_told_103 : decode cX10_told 103 = .ok (.getfield 10, 3) := by decide +kernel
theorem dX10_told_106 : decode cX10_told 106 = .ok (.getfield 209, 3) := by decide +kernel
theorem dX10_told_109 : decode cX10_told 109 = .ok (.ireturn, 1) := by decide +kernel
theorem dX10_told_110 : decode cX10_told 110 = .ok (.iconst (-1), 1) := by decide +kernel
theorem dX10_told_111 : decode cX10_told 111 = .ok (.ireturn, 1) := by decide +kernel
theorem dX10_under_0 : decode cX10_under 0 = .ok (.iload_n 1, 1) := by decide +kernel
theorem dX10_under_1 : decode cX10_under 1 = .ok (.invokestatic 77, 3) := by decide +kernel
theorem dX10_under_4 : decode cX10_under 4 = .ok (.ifCond .ne 5, 3) := by decide +kernel
theorem dX10_under_7 : decode cX10_under 7 = .ok (.iconst (-1), 1) := by decide +kernel
theorem dX10_under_8 : decode cX10_under 8 = .ok (.ireturn, 1) := by decide +kernel
theorem dX10_under_9 : decode cX10_under 9 = .ok (.aload_n 0, 1) := by decide +kernel
theorem dX10_under_10 : decode cX10_under 10 = .ok (.getfield 52, 3) := by decide +kernel
theorem dX10_under_13 : decode cX10_under 13 = .ok (.aload_n 0, 1) := by decide +kernel
theorem dX10_under_14 : decode cX10_under 14 = .ok (.getfield 10, 3) := by decide +kernel
theorem dX10_under_17 : decode cX10_under 17 = .ok (.aload_n 0, 1) := by decide +kernel
theorem dX10_under_18 : decode cX10_under 18 = .ok (.getfield 45, 3) := by decide +kernel
theorem dX10_under_21 : decode cX10_under 21 = .ok (.invokevirtual 215, 3) := by decide +kernel
theorem dX10_under_24 : decode cX10_under 24 = .ok (.aload_n 0, 1) := by decide +kernel
theorem dX10_under_25 : decode cX10_under 25 = .ok (.getfield 52, 3) := by decide +kernel
theorem dX10_under_28 : decode cX10_under 28 = .ok (.getfield 259, 3) := by decide +kernel
theorem dX10_under_31 : decode cX10_under 31 = .ok (.iload_n 1, 1) := by decide +kernel
theorem dX10_under_32 : decode cX10_under 32 = .ok (.iaload, 1) := by decide +kernel
theorem dX10_under_33 : decode cX10_under 33 = .ok (.ireturn, 1) := by decide +kernel
theorem dX1_aboutToEnter_0 : decode cX1_aboutToEnter 0 = .ok (.aload_n 0, 1) := by decide +kernel
theorem dX1_aboutToEnter_1 : decode cX1_aboutToEnter 1 = .ok (.getfield 24, 3) := by decide +kernel
theorem dX1_aboutToEnter_4 : decode cX1_aboutToEnter 4 = .ok (.iload_n 1, 1) := by decide +kernel
theorem dX1_aboutToEnter_5 : decode cX1_aboutToEnter 5 = .ok (.iaload, 1) := by decide +kernel
theorem dX1_aboutToEnter_6 : decode cX1_aboutToEnter 6 = .ok (.istore_n 2, 1) := by decide +kernel
theorem dX1_aboutToEnter_7 : decode cX1_aboutToEnter 7 = .ok (.aload_n 0, 1) := by decide +kernel
theorem dX1_aboutToEnter_8 : decode cX1_aboutToEnter 8 = .ok (.getfield 28, 3) := by decide +kernel
theorem dX1_aboutToEnter_11 : decode cX1_aboutToEnter 11 = .ok (.iload_n 1, 1) := by decide +kernel
theorem dX1_aboutToEnter_12 : decode cX1_aboutToEnter 12 = .ok (.iaload, 1) := by decide +kernel
theorem dX1_aboutToEnter_13 : decode cX1_aboutToEnter 13 = .ok (.ifCond .ne 17, 3) := by decide +kernel
theorem dX1_aboutToEnter_16 : decode cX1_aboutToEnter 16 = .ok (.aload_n 0, 1) := by decide +kernel
theorem dX1_aboutToEnter_17 : decode cX1_aboutToEnter 17 = .ok (.getfield 20, 3) := by decide +kernel
theorem dX1_aboutToEnter_20 : decode cX1_aboutToEnter 20 = .ok (.iload_n 1, 1) := by decide +kernel
theorem dX1_aboutToEnter_21 : decode cX1_aboutToEnter 21 = .ok (.aaload, 1) := by decide +kernel
theorem dX1_aboutToEnter_22 : decode cX1_aboutToEnter 22 = .ok (.iload_n 2, 1) := by decide +kernel
theorem dX1_aboutToEnter_23 : decode cX1_aboutToEnter 23 = .ok (.iconst 0, 1) := by decide +kernel
theorem dX1_aboutToEnter_24 : decode cX1_aboutToEnter 24 = .ok (.invokevirtual 86, 3) := by decide +kernel
theorem dX1_aboutToEnter_27 : decode cX1_aboutToEnter 27 = .ok (.ifCond .eq 5, 3) := by decide +kernel
theorem dX1_aboutToEnter_30 : decode cX1_aboutToEnter 30 = .ok (.iconst (-1), 1) := by decide +kernel
theorem dX1_aboutToEnter_31 : decode cX1_aboutToEnter 31 = .ok (.ireturn, 1) := by decide +kernel
theorem dX1_aboutToEnter_32 : decode cX1_aboutToEnter 32 = .ok (.aload_n 0, 1) := by decide +kernel
theorem dX1_aboutToEnter_33 : decode cX1_aboutToEnter 33 = .ok (.getfield 20, 3) := by decide +kernel
theorem dX1_aboutToEnter_36 : decode cX1_aboutToEnter 36 = .ok (.iload_n 1, 1) := by decide +kernel
theorem dX1_aboutToEnter_37 : decode cX1_aboutToEnter 37 = .ok (.aaload, 1) := by decide +kernel
theorem dX1_aboutToEnter_38 : decode cX1_aboutToEnter 38 = .ok (.iload_n 2, 1) := by decide +kernel
theorem dX1_aboutToEnter_39 : decode cX1_aboutToEnter 39 = .ok (.iconst 1, 1) := by decide +kernel
theorem dX1_aboutToEnter_40 : decode cX1_aboutToEnter 40 = .ok (.invokevirtual 86, 3) := by decide +kernel
theorem dX1_aboutToEnter_43 : decode cX1_aboutToEnter 43 = .ok (.istore_n 3, 1) := by decide +kernel
theorem dX1_aboutToEnter_44 : decode cX1_aboutToEnter 44 = .ok (.iload_n 3, 1) := by decide +kernel
theorem dX1_aboutToEnter_45 : decode cX1_aboutToEnter 45 = .ok (.invokestatic 136, 3) := by decide +kernel
theorem dX1_aboutToEnter_48 : decode cX1_aboutToEnter 48 = .ok (.ifCond .eq 26, 3) := by decide +kernel
theorem dX1_aboutToEnter_51 : decode cX1_aboutToEnter 51 = .ok (.aload_n 0, 1) := by decide +kernel
theorem dX1_aboutToEnter_52 : decode cX1_aboutToEnter 52 = .ok (.getfield 40, 3) := by decide +kernel
theorem dX1_aboutToEnter_55 : decode cX1_aboutToEnter 55 = .ok (.iload_n 3, 1) := by decide +kernel
theorem dX1_aboutToEnter_56 : decode cX1_aboutToEnter 56 = .ok (.baload, 1) := by decide +kernel
theorem dX1_aboutToEnter_57 : decode cX1_aboutToEnter 57 = .ok (.ifCond .ne 17, 3) := by decide +kernel
theorem dX1_aboutToEnter_60 : decode cX1_aboutToEnter 60 = .ok (.aload_n 0, 1) := by decide +kernel
theorem dX1_aboutToEnter_61 : decode cX1_aboutToEnter 61 = .ok (.getfield 44, 3) := by decide +kernel
theorem dX1_aboutToEnter_64 : decode cX1_aboutToEnter 64 = .ok (.iload_n 3, 1) := by decide +kernel
theorem dX1_aboutToEnter_65 : decode cX1_aboutToEnter 65 = .ok (.iaload, 1) := by decide +kernel
theorem dX1_aboutToEnter_66 : decode cX1_aboutToEnter 66 = .ok (.iload_n 1, 1) := by decide +kernel
theorem dX1_aboutToEnter_67 : decode cX1_aboutToEnter 67 = .ok (.if_icmp .eq 7, 3) := by decide +kernel
theorem dX1_aboutToEnter_70 : decode cX1_aboutToEnter 70 = .ok (.iload_n 3, 1) := by decide +kernel
theorem dX1_aboutToEnter_71 : decode cX1_aboutToEnter 71 = .ok (.goto 4, 3) := by decide +kernel
theorem dX1_aboutToEnter_74 : decode cX1_aboutToEnter 74 = .ok (.iconst (-1), 1) := by decide +kernel
theorem dX1_aboutToEnter_75 : decode cX1_aboutToEnter 75 = .ok (.ireturn, 1) := by decide +kernel
theorem dX1_allThatAre_0 : decode cX1_allThatAre 0 = .ok (.iconst 0, 1) := by decide +kernel
theorem dX1_allThatAre_1 : decode cX1_allThatAre 1 = .ok (.istore_n 2, 1) := by decide +kernel
theorem dX1_allThatAre_2 : decode cX1_allThatAre 2 = .ok (.iconst 0, 1) := by decide +kernel
theorem dX1_allThatAre_3 : decode cX1_allThatAre 3 = .ok (.istore_n 3, 1) := by decide +kernel
theorem dX1_allThatAre_4 : decode cX1_allThatAre 4 = .ok (.iload_n 3, 1) := by decide +kernel
theorem dX1_allThatAre_5 : decode cX1_allThatAre 5 = .ok (.aload_n 0, 1) := by decide +kernel
theorem dX1_allThatAre_6 : decode cX1_allThatAre 6 = .ok (.getfield 9, 3) := by decide +kernel
theorem dX1_allThatAre_9 : decode cX1_allThatAre 9 = .ok (.if_icmp .ge 25, 3) := by decide +kernel
end
section
theorem dX1_allThatAre_12 : decode cX1_allThatAre 12 = .ok (.aload_n 0, 1) := by decide +kernel
theorem dX1_allThatAre_13 : decode cX1_allThatAre 13 = .ok (.getfield 28, 3) := by decide +kernel
theorem dX1_allThatAre_16 : decode cX1_allThatAre 16 = .ok (.iload_n 3, 1) := by decide +kernel
theorem dX1_allThatAre_17 : decode cX1_allThatAre 17 = .ok (.iaload, 1) := by decide +kernel
theorem dX1_allThatAre_18 : decode cX1_allThatAre 18 = .ok (.iload_n 1, 1) := by decide +kernel
theorem dX1_allThatAre_19 : decode cX1_allThatAre 19 = .ok (.if_icmp .ne 9, 3) := by decide +kernel
theorem dX1_allThatAre_22 : decode cX1_allThatAre 22 = .ok (.iload_n 2, 1) := by decide +kernel
theorem dX1_allThatAre_23 : decode cX1_allThatAre 23 = .ok (.iconst 1, 1) := by decide +kernel
theorem dX1_allThatAre_24 : decode cX1_allThatAre 24 = .ok (.iload_n 3, 1) := by decide +kernel
theorem dX1_allThatAre_25 : decode cX1_allThatAre 25 = .ok (.ishl, 1) := by decide +kernel
theorem dX1_allThatAre_26 : decode cX1_allThatAre 26 = .ok (.ior, 1) := by decide +kernel
theorem dX1_allThatAre_27 : decode cX1_allThatAre 27 = .ok (.istore_n 2, 1) := by decide +kernel
theorem dX1_allThatAre_28 : decode cX1_allThatAre 28 = .ok (.iinc 3 1, 3) := by decide +kernel
theorem dX1_allThatAre_31 : decode cX1_allThatAre 31 = .ok (.goto (-27), 3) := by decide +kernel
theorem dX1_allThatAre_34 : decode cX1_allThatAre 34 = .ok (.iload_n 2, 1) := by decide +kernel
theorem dX1_allThatAre_35 : decode cX1_allThatAre 35 = .ok (.ireturn, 1) := by decide +kernel
theorem dX1_chosenBy_0 : decode cX1_chosenBy 0 = .ok (.iconst 0, 1) := by decide +kernel
theorem dX1_chosenBy_1 : decode cX1_chosenBy 1 = .ok (.istore_n 2, 1) := by decide +kernel
theorem dX1_chosenBy_2 : decode cX1_chosenBy 2 = .ok (.iload_n 2, 1) := by decide +kernel
theorem dX1_chosenBy_3 : decode cX1_chosenBy 3 = .ok (.aload_n 0, 1) := by decide +kernel
theorem dX1_chosenBy_4 : decode cX1_chosenBy 4 = .ok (.getfield 9, 3) := by decide +kernel
theorem dX1_chosenBy_7 : decode cX1_chosenBy 7 = .ok (.if_icmp .ge 58, 3) := by decide +kernel
theorem dX1_chosenBy_10 : decode cX1_chosenBy 10 = .ok (.iload_n 2, 1) := by decide +kernel
theorem dX1_chosenBy_11 : decode cX1_chosenBy 11 = .ok (.istore_n 3, 1) := by decide +kernel
theorem dX1_chosenBy_12 : decode cX1_chosenBy 12 = .ok (.iload_n 1, 1) := by decide +kernel
theorem dX1_chosenBy_13 : decode cX1_chosenBy 13 = .ok (.iconst 1, 1) := by decide +kernel
theorem dX1_chosenBy_14 : decode cX1_chosenBy 14 = .ok (.if_icmp .ne 20, 3) := by decide +kernel
theorem dX1_chosenBy_17 : decode cX1_chosenBy 17 = .ok (.aload_n 0, 1) := by decide +kernel
theorem dX1_chosenBy_18 : decode cX1_chosenBy 18 = .ok (.getfield 15, 3) := by decide +kernel
theorem dX1_chosenBy_21 : decode cX1_chosenBy 21 = .ok (.iconst 1, 1) := by decide +kernel
theorem dX1_chosenBy_22 : decode cX1_chosenBy 22 = .ok (.iadd, 1) := by decide +kernel
theorem dX1_chosenBy_23 : decode cX1_chosenBy 23 = .ok (.iload_n 2, 1) := by decide +kernel
theorem dX1_chosenBy_24 : decode cX1_chosenBy 24 = .ok (.iadd, 1) := by decide +kernel
theorem dX1_chosenBy_25 : decode cX1_chosenBy 25 = .ok (.aload_n 0, 1) := by decide +kernel
theorem dX1_chosenBy_26 : decode cX1_chosenBy 26 = .ok (.getfield 9, 3) := by decide +kernel
theorem dX1_chosenBy_29 : decode cX1_chosenBy 29 = .ok (.irem, 1) := by decide +kernel
theorem dX1_chosenBy_30 : decode cX1_chosenBy 30 = .ok (.istore_n 3, 1) := by decide +kernel
theorem dX1_chosenBy_31 : decode cX1_chosenBy 31 = .ok (.goto 17, 3) := by decide +kernel
theorem dX1_chosenBy_34 : decode cX1_chosenBy 34 = .ok (.iload_n 1, 1) := by decide +kernel
theorem dX1_chosenBy_35 : decode cX1_chosenBy 35 = .ok (.iconst 2, 1) := by decide +kernel
theorem dX1_chosenBy_36 : decode cX1_chosenBy 36 = .ok (.if_icmp .ne 12, 3) := by decide +kernel
theorem dX1_chosenBy_39 : decode cX1_chosenBy 39 = .ok (.aload_n 0, 1) := by decide +kernel
theorem dX1_chosenBy_40 : decode cX1_chosenBy 40 = .ok (.getfield 9, 3) := by decide +kernel
theorem dX1_chosenBy_43 : decode cX1_chosenBy 43 = .ok (.iconst 1, 1) := by decide +kernel
theorem dX1_chosenBy_44 : decode cX1_chosenBy 44 = .ok (.isub, 1) := by decide +kernel
theorem dX1_chosenBy_45 : decode cX1_chosenBy 45 = .ok (.iload_n 2, 1) := by decide +kernel
theorem dX1_chosenBy_46 : decode cX1_chosenBy 46 = .ok (.isub, 1) := by decide +kernel
theorem dX1_chosenBy_47 : decode cX1_chosenBy 47 = .ok (.istore_n 3, 1) := by decide +kernel
theorem dX1_chosenBy_48 : decode cX1_chosenBy 48 = .ok (.aload_n 0, 1) := by decide +kernel
theorem dX1_chosenBy_49 : decode cX1_chosenBy 49 = .ok (.getfield 28, 3) := by decide +kernel
theorem dX1_chosenBy_52 : decode cX1_chosenBy 52 = .ok (.iload_n 3, 1) := by decide +kernel
theorem dX1_chosenBy_53 : decode cX1_chosenBy 53 = .ok (.iaload, 1) := by decide +kernel
theorem dX1_chosenBy_54 : decode cX1_chosenBy 54 = .ok (.ifCond .ne 5, 3) := by decide +kernel
theorem dX1_chosenBy_57 : decode cX1_chosenBy 57 = .ok (.iload_n 3, 1) := by decide +kernel
theorem dX1_chosenBy_58 : decode cX1_chosenBy 58 = .ok (.ireturn, 1) := by decide +kernel
theorem dX1_chosenBy_59 : decode cX1_chosenBy 59 = .ok (.iinc 2 1, 3) := by decide +kernel
theorem dX1_chosenBy_62 : decode cX1_chosenBy 62 = .ok (.goto (-60), 3) := by decide +kernel
theorem dX1_chosenBy_65 : decode cX1_chosenBy 65 = .ok (.iconst (-1), 1) := by decide +kernel
theorem dX1_chosenBy_66 : decode cX1_chosenBy 66 = .ok (.ireturn, 1) := by decide +kernel
theorem dX1_copyFrom_0 : decode cX1_copyFrom 0 = .ok (.aload_n 0, 1) := by decide +kernel
theorem dX1_copyFrom_1 : decode cX1_copyFrom 1 = .ok (.aload_n 1, 1) := by decide +kernel
theorem dX1_copyFrom_2 : decode cX1_copyFrom 2 = .ok (.getfield 9, 3) := by decide +kernel
theorem dX1_copyFrom_5 : decode cX1_copyFrom 5 = .ok (.putfield 9, 3) := by decide +kernel
theorem dX1_copyFrom_8 : decode cX1_copyFrom 8 = .ok (.aload_n 0, 1) := by decide +kernel
theorem dX1_copyFrom_9 : decode cX1_copyFrom 9 = .ok (.aload_n 1, 1) := by decide +kernel
theorem dX1_copyFrom_10 : decode cX1_copyFrom 10 = .ok (.getfield 15, 3) := by decide +kernel
theorem dX1_copyFrom_13 : decode cX1_copyFrom 13 = .ok (.putfield 15, 3) := by decide +kernel
theorem dX1_copyFrom_16 : decode cX1_copyFrom 16 = .ok (.iconst 0, 1) := by decide +kernel
theorem dX1_copyFrom_17 : decode cX1_copyFrom 17 = .ok (.istore_n 2, 1) := by decide +kernel
theorem dX1_copyFrom_18 : decode cX1_copyFrom 18 = .ok (.iload_n 2, 1) := by decide +kernel
theorem dX1_copyFrom_19 : decode cX1_copyFrom 19 = .ok (.iconst 4, 1) := by decide +kernel
theorem dX1_copyFrom_20 : decode cX1_copyFrom 20 = .ok (.if_icmp .ge 24, 3) := by decide +kernel
theorem dX1_copyFrom_23 : decode cX1_copyFrom 23 = .ok (.aload_n 0, 1) := by decide +kernel
theorem dX1_copyFrom_24 : decode cX1_copyFrom 24 = .ok (.getfield 20, 3) := by decide +kernel
theorem dX1_copyFrom_27 : decode cX1_copyFrom 27 = .ok (.iload_n 2, 1) := by decide +kernel
theorem dX1_copyFrom_28 : decode cX1_copyFrom 28 = .ok (.aaload, 1) := by decide +kernel
theorem dX1_copyFrom_29 : decode cX1_copyFrom 29 = .ok (.aload_n 1, 1) := by decide +kernel
theorem dX1_copyFrom_30 : decode cX1_copyFrom 30 = .ok (.getfield 20, 3) := by decide +kernel
theorem dX1_copyFrom_33 : decode cX1_copyFrom 33 = .ok (.iload_n 2, 1) := by decide +kernel
theorem dX1_copyFrom_34 : decode cX1_copyFrom 34 = .ok (.aaload, 1) := by decide +kernel
theorem dX1_copyFrom_35 : decode cX1_copyFrom 35 = .ok (.invokevirtual 72, 3) := by decide +kernel
theorem dX1_copyFrom_38 : decode cX1_copyFrom 38 = .ok (.iinc 2 1, 3) := by decide +kernel
theorem dX1_copyFrom_41 : decode cX1_copyFrom 41 = .ok (.goto (-23), 3) := by decide +kernel
theorem dX1_copyFrom_44 : decode cX1_copyFrom 44 = .ok (.aload_n 1, 1) := by decide +kernel
theorem dX1_copyFrom_45 : decode cX1_copyFrom 45 = .ok (.getfield 24, 3) := by decide +kernel
theorem dX1_copyFrom_48 : decode cX1_copyFrom 48 = .ok (.iconst 0, 1) := by decide +kernel
theorem dX1_copyFrom_49 : decode cX1_copyFrom 49 = .ok (.aload_n 0, 1) := by decide +kernel
theorem dX1_copyFrom_50 : decode cX1_copyFrom 50 = .ok (.getfield 24, 3) := by decide +kernel
theorem dX1_copyFrom_53 : decode cX1_copyFrom 53 = .ok (.iconst 0, 1) := by decide +kernel
theorem dX1_copyFrom_54 : decode cX1_copyFrom 54 = .ok (.iconst 4, 1) := by decide +kernel
theorem dX1_copyFrom_55 : decode cX1_copyFrom 55 = .ok (.invokestatic 76, 3) := by decide +kernel
theorem dX1_copyFrom_58 : decode cX1_copyFrom 58 = .ok (.aload_n 1, 1) := by decide +kernel
theorem dX1_copyFrom_59 : decode cX1_copyFrom 59 = .ok (.getfield 28, 3) := by decide +kernel
theorem dX1_copyFrom_62 : decode cX1_copyFrom 62 = .ok (.iconst 0, 1) := by decide +kernel
theorem dX1_copyFrom_63 : decode cX1_copyFrom 63 = .ok (.aload_n 0, 1) := by decide +kernel
theorem dX1_copyFrom_64 : decode cX1_copyFrom 64 = .ok (.getfield 28, 3) := by decide +kernel
theorem dX1_copyFrom_67 : decode cX1_copyFrom 67 = .ok (.iconst 0, 1) := by decide +kernel
theorem dX1_copyFrom_68 : decode cX1_copyFrom 68 = .ok (.iconst 4, 1) := by decide +kernel
theorem dX1_copyFrom_69 : decode cX1_copyFrom 69 = .ok (.invokestatic 76, 3) := by decide +kernel
theorem dX1_copyFrom_72 : decode cX1_copyFrom 72 = .ok (.aload_n 1, 1) := by decide +kernel
theorem dX1_copyFrom_73 : decode cX1_copyFrom 73 = .ok (.getfield 31, 3) := by decide +kernel
theorem dX1_copyFrom_76 : decode cX1_copyFrom 76 = .ok (.iconst 0, 1) := by decide +kernel
theorem dX1_copyFrom_77 : decode cX1_copyFrom 77 = .ok (.aload_n 0, 1) := by decide +kernel
theorem dX1_copyFrom_78 : decode cX1_copyFrom 78 = .ok (.getfield 31, 3) := by decide +kernel
theorem dX1_copyFrom_81 : decode cX1_copyFrom 81 = .ok (.iconst 0, 1) := by decide +kernel
theorem dX1_copyFrom_82 : decode cX1_copyFrom 82 = .ok (.iconst 4, 1) := by decide +kernel
theorem dX1_copyFrom_83 : decode cX1_copyFrom 83 = .ok (.invokestatic 76, 3) := by decide +kernel
theorem dX1_copyFrom_86 : decode cX1_copyFrom 86 = .ok (.aload_n 1, 1) := by decide +kernel
theorem dX1_copyFrom_87 : decode cX1_copyFrom 87 = .ok (.getfield 34, 3) := by decide +kernel
theorem dX1_copyFrom_90 : decode cX1_copyFrom 90 = .ok (.iconst 0, 1) := by decide +kernel
theorem dX1_copyFrom_91 : decode cX1_copyFrom 91 = .ok (.aload_n 0, 1) := by decide +kernel
theorem dX1_copyFrom_92 : decode cX1_copyFrom 92 = .ok (.getfield 34, 3) := by decide +kernel
theorem dX1_copyFrom_95 : decode cX1_copyFrom 95 = .ok (.iconst 0, 1) := by decide +kernel
theorem dX1_copyFrom_96 : decode cX1_copyFrom 96 = .ok (.iconst 4, 1) := by decide +kernel
theorem dX1_copyFrom_97 : decode cX1_copyFrom 97 = .ok (.invokestatic 76, 3) := by decide +kernel
theorem dX1_copyFrom_100 : decode cX1_copyFrom 100 = .ok (.aload_n 1, 1) := by decide +kernel
theorem dX1_copyFrom_101 : decode cX1_copyFrom 101 = .ok (.getfield 37, 3) := by decide +kernel
theorem dX1_copyFrom_104 : decode cX1_copyFrom 104 = .ok (.iconst 0, 1) := by decide +kernel
theorem dX1_copyFrom_105 : decode cX1_copyFrom 105 = .ok (.aload_n 0, 1) := by decide +kernel
theorem dX1_copyFrom_106 : decode cX1_copyFrom 106 = .ok (.getfield 37, 3) := by decide +kernel
theorem dX1_copyFrom_109 : decode cX1_copyFrom 109 = .ok (.iconst 0, 1) := by decide +kernel
theorem dX1_copyFrom_110 : decode cX1_copyFrom 110 = .ok (.iconst 4, 1) := by decide +kernel
theorem dX1_copyFrom_111 : decode cX1_copyFrom 111 = .ok (.invokestatic 76, 3) := by decide +kernel
theorem dX1_copyFrom_114 : decode cX1_copyFrom 114 = .ok (.aload_n 1, 1) := by decide +kernel
theorem dX1_copyFrom_115 : decode cX1_copyFrom 115 = .ok (.getfield 44, 3) := by decide +kernel
theorem dX1_copyFrom_118 : decode cX1_copyFrom 118 = .ok (.iconst 0, 1) := by decide +kernel
theorem dX1_copyFrom_119 : decode cX1_copyFrom 119 = .ok (.aload_n 0, 1) := by decide +kernel
theorem dX1_copyFrom_120 : decode cX1_copyFrom 120 = .ok (.getfield 44, 3) := by decide +kernel
theorem dX1_copyFrom_123 : decode cX1_copyFrom 123 = .ok (.iconst 0, 1) := by decide +kernel
theorem dX1_copyFrom_124 : decode cX1_copyFrom 124 = .ok (.iconst 3, 1) := by decide +kernel
theorem dX1_copyFrom_125 : decode cX1_copyFrom 125 = .ok (.invokestatic 76, 3) := by decide +kernel
theorem dX1_copyFrom_128 : decode cX1_copyFrom 128 = .ok (.aload_n 1, 1) := by decide +kernel
theorem dX1_copyFrom_129 : decode cX1_copyFrom 129 = .ok (.getfield 47, 3) := by decide +kernel
theorem dX1_copyFrom_132 : decode cX1_copyFrom 132 = .ok (.iconst 0, 1) := by decide +kernel
theorem dX1_copyFrom_133 : decode cX1_copyFrom 133 = .ok (.aload_n 0, 1) := by decide +kernel
theorem dX1_copyFrom_134 : decode cX1_copyFrom 134 = .ok (.getfield 47, 3) := by decide +kernel
theorem dX1_copyFrom_137 : decode cX1_copyFrom 137 = .ok (.iconst 0, 1) := by decide +kernel
theorem dX1_copyFrom_138 : decode cX1_copyFrom 138 = .ok (.iconst 3, 1) := by decide +kernel
theorem dX1_copyFrom_139 : decode cX1_copyFrom 139 = .ok (.invokestatic 76, 3) := by decide +kernel
theorem dX1_copyFrom_142 : decode cX1_copyFrom 142 = .ok (.aload_n 1, 1) := by decide +kernel
theorem dX1_copyFrom_143 : decode cX1_copyFrom 143 = .ok (.getfield 50, 3) := by decide +kernel
theorem dX1_copyFrom_146 : decode cX1_copyFrom 146 = .ok (.iconst 0, 1) := by decide +kernel
theorem dX1_copyFrom_147 : decode cX1_copyFrom 147 = .ok (.aload_n 0, 1) := by decide +kernel
theorem dX1_copyFrom_148 : decode cX1_copyFrom 148 = .ok (.getfield 50, 3) := by decide +kernel
theorem dX1_copyFrom_151 : decode cX1_copyFrom 151 = .ok (.iconst 0, 1) := by decide +kernel
theorem dX1_copyFrom_152 : decode cX1_copyFrom 152 = .ok (.iconst 3, 1) := by decide +kernel
theorem dX1_copyFrom_153 : decode cX1_copyFrom 153 = .ok (.invokestatic 76, 3) := by decide +kernel
theorem dX1_copyFrom_156 : decode cX1_copyFrom 156 = .ok (.aload_n 1, 1) := by decide +kernel
theorem dX1_copyFrom_157 : decode cX1_copyFrom 157 = .ok (.getfield 53, 3) := by decide +kernel
theorem dX1_copyFrom_160 : decode cX1_copyFrom 160 = .ok (.iconst 0, 1) := by decide +kernel
theorem dX1_copyFrom_161 : decode cX1_copyFrom 161 = .ok (.aload_n 0, 1) := by decide +kernel
theorem dX1_copyFrom_162 : decode cX1_copyFrom 162 = .ok (.getfield 53, 3) := by decide +kernel
theorem dX1_copyFrom_165 : decode cX1_copyFrom 165 = .ok (.iconst 0, 1) := by decide +kernel
theorem dX1_copyFrom_166 : decode cX1_copyFrom 166 = .ok (.iconst 3, 1) := by decide +kernel
theorem dX1_copyFrom_167 : decode cX1_copyFrom 167 = .ok (.invokestatic 76, 3) := by decide +kernel
theorem dX1_copyFrom_170 : decode cX1_copyFrom 170 = .ok (.aload_n 1, 1) := by decide +kernel
theorem dX1_copyFrom_171 : decode cX1_copyFrom 171 = .ok (.getfield 56, 3) := by decide +kernel
theorem dX1_copyFrom_174 : decode cX1_copyFrom 174 = .ok (.iconst 0, 1) := by decide +kernel
theorem dX1_copyFrom_175 : decode cX1_copyFrom 175 = .ok (.aload_n 0, 1) := by decide +kernel
theorem dX1_copyFrom_176 : decode cX1_copyFrom 176 = .ok (.getfield 56, 3) := by decide +kernel
theorem dX1_copyFrom_179 : decode cX1_copyFrom 179 = .ok (.iconst 0, 1) := by decide +kernel
theorem dX1_copyFrom_180 : decode cX1_copyFrom 180 = .ok (.iconst 4, 1) := by decide +kernel
theorem dX1_copyFrom_181 : decode cX1_copyFrom 181 = .ok (.invokestatic 76, 3) := by decide +kernel
theorem dX1_copyFrom_184 : decode cX1_copyFrom 184 = .ok (.iconst 0, 1) := by decide +kernel
theorem dX1_copyFrom_185 : decode cX1_copyFrom 185 = .ok (.istore_n 2, 1) := by decide +kernel
theorem dX1_copyFrom_186 : decode cX1_copyFrom 186 = .ok (.iload_n 2, 1) := by decide +kernel
theorem dX1_copyFrom_187 : decode cX1_copyFrom 187 = .ok (.iconst 3, 1) := by decide +kernel
theorem dX1_copyFrom_188 : decode cX1_copyFrom 188 = .ok (.if_icmp .ge 21, 3) := by decide +kernel
theorem dX1_copyFrom_191 : decode cX1_copyFrom 191 = .ok (.aload_n 0, 1) := by decide +kernel
theorem dX1_copyFrom_192 : decode cX1_copyFrom 192 = .ok (.getfield 40, 3) := by decide +kernel
theorem dX1_copyFrom_195 : decode cX1_copyFrom 195 = .ok (.iload_n 2, 1) := by decide +kernel
theorem dX1_copyFrom_196 : decode cX1_copyFrom 196 = .ok (.aload_n 1, 1) := by decide +kernel
theorem dX1_copyFrom_197 : decode cX1_copyFrom 197 = .ok (.getfield 40, 3) := by decide +kernel
theorem dX1_copyFrom_200 : decode cX1_copyFrom 200 = .ok (.iload_n 2, 1) := by decide +kernel
theorem dX1_copyFrom_201 : decode cX1_copyFrom 201 = .ok (.baload, 1) := by decide +kernel
theorem dX1_copyFrom_202 : decode cX1_copyFrom 202 = .ok (.bastore, 1) := by decide +kernel
theorem dX1_copyFrom_203 : decode cX1_copyFrom 203 = .ok (.iinc 2 1, 3) := by decide +kernel
theorem dX1_copyFrom_206 : decode cX1_copyFrom 206 = .ok (.goto (-20), 3) := by decide +kernel
theorem dX1_copyFrom_209 : decode cX1_copyFrom 209 = .ok (.return_, 1) := by decide +kernel
theorem dX1_doAtMonitor_0 : decode cX1_doAtMonitor 0 = .ok (.aload_n 0, 1) := by decide +kernel
theorem dX1_doAtMonitor_1 : decode cX1_doAtMonitor 1 = .ok (.getfield 40, 3) := by decide +kernel
theorem dX1_doAtMonitor_4 : decode cX1_doAtMonitor 4 = .ok (.iload_n 3, 1) := by decide +kernel
theorem dX1_doAtMonitor_5 : decode cX1_doAtMonitor 5 = .ok (.baload, 1) := by decide +kernel
theorem dX1_doAtMonitor_6 : decode cX1_doAtMonitor 6 = .ok (.ifCond .eq 5, 3) := by decide +kernel
theorem dX1_doAtMonitor_9 : decode cX1_doAtMonitor 9 = .ok (.iconst 1, 1) := by decide +kernel
theorem dX1_doAtMonitor_10 : decode cX1_doAtMonitor 10 = .ok (.ireturn, 1) := by decide +kernel
theorem dX1_doAtMonitor_11 : decode cX1_doAtMonitor 11 = .ok (.iload_n 2, 1) := by decide +kernel
theorem dX1_doAtMonitor_12 : decode cX1_doAtMonitor 12 = .ok (.ifCond .ne 10, 3) := by decide +kernel
theorem dX1_doAtMonitor_15 : decode cX1_doAtMonitor 15 = .ok (.aload_n 0, 1) := by decide +kernel
theorem dX1_doAtMonitor_16 : decode cX1_doAtMonitor 16 = .ok (.iload_n 1, 1) := by decide +kernel
theorem dX1_doAtMonitor_17 : decode cX1_doAtMonitor 17 = .ok (.iload_n 3, 1) := by decide +kernel
theorem dX1_doAtMonitor_18 : decode cX1_doAtMonitor 18 = .ok (.invokevirtual 98, 3) := by decide +kernel
theorem dX1_doAtMonitor_21 : decode cX1_doAtMonitor 21 = .ok (.ireturn, 1) := by decide +kernel
theorem dX1_doAtMonitor_22 : decode cX1_doAtMonitor 22 = .ok (.aload_n 0, 1) := by decide +kernel
theorem dX1_doAtMonitor_23 : decode cX1_doAtMonitor 23 = .ok (.getfield 44, 3) := by decide +kernel
theorem dX1_doAtMonitor_26 : decode cX1_doAtMonitor 26 = .ok (.iload_n 3, 1) := by decide +kernel
theorem dX1_doAtMonitor_27 : decode cX1_doAtMonitor 27 = .ok (.iaload, 1) := by decide +kernel
theorem dX1_doAtMonitor_28 : decode cX1_doAtMonitor 28 = .ok (.iload_n 1, 1) := by decide +kernel
theorem dX1_doAtMonitor_29 : decode cX1_doAtMonitor 29 = .ok (.if_icmp .eq 5, 3) := by decide +kernel
theorem dX1_doAtMonitor_32 : decode cX1_doAtMonitor 32 = .ok (.iconst 2, 1) := by decide +kernel
theorem dX1_doAtMonitor_33 : decode cX1_doAtMonitor 33 = .ok (.ireturn, 1) := by decide +kernel
theorem dX1_doAtMonitor_34 : decode cX1_doAtMonitor 34 = .ok (.iload_n 2, 1) := by decide +kernel
theorem dX1_doAtMonitor_35 : decode cX1_doAtMonitor 35 = .ok (.iconst 1, 1) := by decide +kernel
theorem dX1_doAtMonitor_36 : decode cX1_doAtMonitor 36 = .ok (.if_icmp .ne 30, 3) := by decide +kernel
theorem dX1_doAtMonitor_39 : decode cX1_doAtMonitor 39 = .ok (.aload_n 0, 1) := by decide +kernel
theorem dX1_doAtMonitor_40 : decode cX1_doAtMonitor 40 = .ok (.getfield 47, 3) := by decide +kernel
theorem dX1_doAtMonitor_43 : decode cX1_doAtMonitor 43 = .ok (.iload_n 3, 1) := by decide +kernel
theorem dX1_doAtMonitor_44 : decode cX1_doAtMonitor 44 = .ok (.dup2, 1) := by decide +kernel
theorem dX1_doAtMonitor_45 : decode cX1_doAtMonitor 45 = .ok (.iaload, 1) := by decide +kernel
theorem dX1_doAtMonitor_46 : decode cX1_doAtMonitor 46 = .ok (.iconst 1, 1) := by decide +kernel
theorem dX1_doAtMonitor_47 : decode cX1_doAtMonitor 47 = .ok (.isub, 1) := by decide +kernel
theorem dX1_doAtMonitor_48 : decode cX1_doAtMonitor 48 = .ok (.iastore, 1) := by decide +kernel
theorem dX1_doAtMonitor_49 : decode cX1_doAtMonitor 49 = .ok (.aload_n 0, 1) := by decide +kernel
theorem dX1_doAtMonitor_50 : decode cX1_doAtMonitor 50 = .ok (.getfield 47, 3) := by decide +kernel
theorem dX1_doAtMonitor_53 : decode cX1_doAtMonitor 53 = .ok (.iload_n 3, 1) := by decide +kernel
theorem dX1_doAtMonitor_54 : decode cX1_doAtMonitor 54 = .ok (.iaload, 1) := by decide +kernel
theorem dX1_doAtMonitor_55 : decode cX1_doAtMonitor 55 = .ok (.ifCond .ne 74, 3) := by decide +kernel
theorem dX1_doAtMonitor_58 : decode cX1_doAtMonitor 58 = .ok (.aload_n 0, 1) := by decide +kernel
theorem dX1_doAtMonitor_59 : decode cX1_doAtMonitor 59 = .ok (.iload_n 3, 1) := by decide +kernel
theorem dX1_doAtMonitor_60 : decode cX1_doAtMonitor 60 = .ok (.invokevirtual 101, 3) := by decide +kernel
theorem dX1_doAtMonitor_63 : decode cX1_doAtMonitor 63 = .ok (.goto 66, 3) := by decide +kernel
theorem dX1_doAtMonitor_66 : decode cX1_doAtMonitor 66 = .ok (.iload_n 2, 1) := by decide +kernel
theorem dX1_doAtMonitor_67 : decode cX1_doAtMonitor 67 = .ok (.iconst 2, 1) := by decide +kernel
theorem dX1_doAtMonitor_68 : decode cX1_doAtMonitor 68 = .ok (.if_icmp .ne 46, 3) := by decide +kernel
theorem dX1_doAtMonitor_71 : decode cX1_doAtMonitor 71 = .ok (.aload_n 0, 1) := by decide +kernel
theorem dX1_doAtMonitor_72 : decode cX1_doAtMonitor 72 = .ok (.getfield 28, 3) := by decide +kernel
theorem dX1_doAtMonitor_75 : decode cX1_doAtMonitor 75 = .ok (.iload_n 1, 1) := by decide +kernel
theorem dX1_doAtMonitor_76 : decode cX1_doAtMonitor 76 = .ok (.iconst 2, 1) := by decide +kernel
theorem dX1_doAtMonitor_77 : decode cX1_doAtMonitor 77 = .ok (.iastore, 1) := by decide +kernel
theorem dX1_doAtMonitor_78 : decode cX1_doAtMonitor 78 = .ok (.aload_n 0, 1) := by decide +kernel
theorem dX1_doAtMonitor_79 : decode cX1_doAtMonitor 79 = .ok (.getfield 31, 3) := by decide +kernel
theorem dX1_doAtMonitor_82 : decode cX1_doAtMonitor 82 = .ok (.iload_n 1, 1) := by decide +kernel
theorem dX1_doAtMonitor_83 : decode cX1_doAtMonitor 83 = .ok (.aload_n 0, 1) := by decide +kernel
theorem dX1_doAtMonitor_84 : decode cX1_doAtMonitor 84 = .ok (.getfield 47, 3) := by decide +kernel
theorem dX1_doAtMonitor_87 : decode cX1_doAtMonitor 87 = .ok (.iload_n 3, 1) := by decide +kernel
theorem dX1_doAtMonitor_88 : decode cX1_doAtMonitor 88 = .ok (.iaload, 1) := by decide +kernel
theorem dX1_doAtMonitor_89 : decode cX1_doAtMonitor 89 = .ok (.iastore, 1) := by decide +kernel
theorem dX1_doAtMonitor_90 : decode cX1_doAtMonitor 90 = .ok (.aload_n 0, 1) := by decide +kernel
theorem dX1_doAtMonitor_91 : decode cX1_doAtMonitor 91 = .ok (.getfield 53, 3) := by decide +kernel
theorem dX1_doAtMonitor_94 : decode cX1_doAtMonitor 94 = .ok (.iload_n 3, 1) := by decide +kernel
theorem dX1_doAtMonitor_95 : decode cX1_doAtMonitor 95 = .ok (.aload_n 0, 1) := by decide +kernel
theorem dX1_doAtMonitor_96 : decode cX1_doAtMonitor 96 = .ok (.getfield 53, 3) := by decide +kernel
theorem dX1_doAtMonitor_99 : decode cX1_doAtMonitor 99 = .ok (.iload_n 3, 1) := by decide +kernel
theorem dX1_doAtMonitor_100 : decode cX1_doAtMonitor 100 = .ok (.iaload, 1) := by decide +kernel
theorem dX1_doAtMonitor_101 : decode cX1_doAtMonitor 101 = .ok (.iload_n 1, 1) := by decide +kernel
theorem dX1_doAtMonitor_102 : decode cX1_doAtMonitor 102 = .ok (.invokestatic 105, 3) := by decide +kernel
theorem dX1_doAtMonitor_105 : decode cX1_doAtMonitor 105 = .ok (.iastore, 1) := by decide +kernel
theorem dX1_doAtMonitor_106 : decode cX1_doAtMonitor 106 = .ok (.aload_n 0, 1) := by decide +kernel
theorem dX1_doAtMonitor_107 : decode cX1_doAtMonitor 107 = .ok (.iload_n 3, 1) := by decide +kernel
theorem dX1_doAtMonitor_108 : decode cX1_doAtMonitor 108 = .ok (.invokevirtual 101, 3) := by decide +kernel
theorem dX1_doAtMonitor_111 : decode cX1_doAtMonitor 111 = .ok (.goto 18, 3) := by decide +kernel
theorem dX1_doAtMonitor_114 : decode cX1_doAtMonitor 114 = .ok (.aload_n 0, 1) := by decide +kernel
theorem dX1_doAtMonitor_115 : decode cX1_doAtMonitor 115 = .ok (.iload_n 3, 1) := by decide +kernel
theorem dX1_doAtMonitor_116 : decode cX1_doAtMonitor 116 = .ok (.iload_n 2, 1) := by decide +kernel
theorem dX1_doAtMonitor_117 : decode cX1_doAtMonitor 117 = .ok (.iconst 3, 1) := by decide +kernel
theorem dX1_doAtMonitor_118 : decode cX1_doAtMonitor 118 = .ok (.if_icmp .ne 7, 3) := by decide +kernel
theorem dX1_doAtMonitor_121 : decode cX1_doAtMonitor 121 = .ok (.iconst 1, 1) := by decide +kernel
theorem dX1_doAtMonitor_122 : decode cX1_doAtMonitor 122 = .ok (.goto 4, 3) := by decide +kernel
theorem dX1_doAtMonitor_125 : decode cX1_doAtMonitor 125 = .ok (.iconst 4, 1) := by decide +kernel
theorem dX1_doAtMonitor_126 : decode cX1_doAtMonitor 126 = .ok (.invokevirtual 110, 3) := by decide +kernel
theorem dX1_doAtMonitor_129 : decode cX1_doAtMonitor 129 = .ok (.iconst 0, 1) := by decide +kernel
theorem dX1_doAtMonitor_130 : decode cX1_doAtMonitor 130 = .ok (.ireturn, 1) := by decide +kernel
theorem dX1_doWithCells_0 : decode cX1_doWithCells 0 = .ok (.aload_n 2, 1) := by decide +kernel
theorem dX1_doWithCells_1 : decode cX1_doWithCells 1 = .ok (.iload_n 3, 1) := by decide +kernel
theorem dX1_doWithCells_2 : decode cX1_doWithCells 2 = .ok (.iconst 1, 1) := by decide +kernel
theorem dX1_doWithCells_3 : decode cX1_doWithCells 3 = .ok (.invokevirtual 86, 3) := by decide +kernel
theorem dX1_doWithCells_6 : decode cX1_doWithCells 6 = .ok (.istore 4, 2) := by decide +kernel
theorem dX1_doWithCells_8 : decode cX1_doWithCells 8 = .ok (.aload_n 2, 1) := by decide +kernel
theorem dX1_doWithCells_9 : decode cX1_doWithCells 9 = .ok (.iload_n 3, 1) := by decide +kernel
theorem dX1_doWithCells_10 : decode cX1_doWithCells 10 = .ok (.iconst 2, 1) := by decide +kernel
theorem dX1_doWithCells_11 : decode cX1_doWithCells 11 = .ok (.invokevirtual 86, 3) := by decide +kernel
theorem dX1_doWithCells_14 : decode cX1_doWithCells 14 = .ok (.istore 5, 2) := by decide +kernel
theorem dX1_doWithCells_16 : decode cX1_doWithCells 16 = .ok (.aload_n 2, 1) := by decide +kernel
theorem dX1_doWithCells_17 : decode cX1_doWithCells 17 = .ok (.iload_n 3, 1) := by decide +kernel
theorem dX1_doWithCells_18 : decode cX1_doWithCells 18 = .ok (.iconst 0, 1) := by decide +kernel
theorem dX1_doWithCells_19 : decode cX1_doWithCells 19 = .ok (.invokevirtual 86, 3) := by decide +kernel
theorem dX1_doWithCells_22 : decode cX1_doWithCells 22 = .ok (.tableswitch 105 5 7 #[26, 59, 71], 26) := by decide +kernel
theorem dX1_doWithCells_48 : decode cX1_doWithCells 48 = .ok (.aload_n 0, 1) := by decide +kernel
theorem dX1_doWithCells_49 : decode cX1_doWithCells 49 = .ok (.getfield 56, 3) := by decide +kernel
theorem dX1_doWithCells_52 : decode cX1_doWithCells 52 = .ok (.iload 4, 2) := by decide +kernel
theorem dX1_doWithCells_54 : decode cX1_doWithCells 54 = .ok (.iaload, 1) := by decide +kernel
theorem dX1_doWithCells_55 : decode cX1_doWithCells 55 = .ok (.iload 5, 2) := by decide +kernel
theorem dX1_doWithCells_57 : decode cX1_doWithCells 57 = .ok (.iadd, 1) := by decide +kernel
theorem dX1_doWithCells_58 : decode cX1_doWithCells 58 = .ok (.invokestatic 120, 3) := by decide +kernel
theorem dX1_doWithCells_61 : decode cX1_doWithCells 61 = .ok (.ifCond .ne 5, 3) := by decide +kernel
theorem dX1_doWithCells_64 : decode cX1_doWithCells 64 = .ok (.iconst 4, 1) := by decide +kernel
theorem dX1_doWithCells_65 : decode cX1_doWithCells 65 = .ok (.ireturn, 1) := by decide +kernel
theorem dX1_doWithCells_66 : decode cX1_doWithCells 66 = .ok (.aload_n 0, 1) := by decide +kernel
theorem dX1_doWithCells_67 : decode cX1_doWithCells 67 = .ok (.getfield 56, 3) := by decide +kernel
theorem dX1_doWithCells_70 : decode cX1_doWithCells 70 = .ok (.iload 4, 2) := by decide +kernel
theorem dX1_doWithCells_72 : decode cX1_doWithCells 72 = .ok (.dup2, 1) := by decide +kernel
theorem dX1_doWithCells_73 : decode cX1_doWithCells 73 = .ok (.iaload, 1) := by decide +kernel
theorem dX1_doWithCells_74 : decode cX1_doWithCells 74 = .ok (.iload 5, 2) := by decide +kernel
theorem dX1_doWithCells_76 : decode cX1_doWithCells 76 = .ok (.iadd, 1) := by decide +kernel
theorem dX1_doWithCells_77 : decode cX1_doWithCells 77 = .ok (.iastore, 1) := by decide +kernel
theorem dX1_doWithCells_78 : decode cX1_doWithCells 78 = .ok (.goto 64, 3) := by decide +kernel
theorem dX1_doWithCells_81 : decode cX1_doWithCells 81 = .ok (.aload_n 0, 1) := by decide +kernel
theorem dX1_doWithCells_82 : decode cX1_doWithCells 82 = .ok (.getfield 56, 3) := by decide +kernel
theorem dX1_doWithCells_85 : decode cX1_doWithCells 85 = .ok (.iload 4, 2) := by decide +kernel
theorem dX1_doWithCells_87 : decode cX1_doWithCells 87 = .ok (.iload 5, 2) := by decide +kernel
theorem dX1_doWithCells_89 : decode cX1_doWithCells 89 = .ok (.iastore, 1) := by decide +kernel
theorem dX1_doWithCells_90 : decode cX1_doWithCells 90 = .ok (.goto 52, 3) := by decide +kernel
theorem dX1_doWithCells_93 : decode cX1_doWithCells 93 = .ok (.aload_n 0, 1) := by decide +kernel
theorem dX1_doWithCells_94 : decode cX1_doWithCells 94 = .ok (.getfield 56, 3) := by decide +kernel
theorem dX1_doWithCells_97 : decode cX1_doWithCells 97 = .ok (.iload 4, 2) := by decide +kernel
theorem dX1_doWithCells_99 : decode cX1_doWithCells 99 = .ok (.iaload, 1) := by decide +kernel
theorem dX1_doWithCells_100 : decode cX1_doWithCells 100 = .ok (.iload 5, 2) := by decide +kernel
theorem dX1_doWithCells_102 : decode cX1_doWithCells 102 = .ok (.if_icmp .eq 40, 3) := by decide +kernel
theorem dX1_doWithCells_105 : decode cX1_doWithCells 105 = .ok (.aload_n 0, 1) := by decide +kernel
theorem dX1_doWithCells_106 : decode cX1_doWithCells 106 = .ok (.getfield 24, 3) := by decide +kernel
theorem dX1_doWithCells_109 : decode cX1_doWithCells 109 = .ok (.iload_n 1, 1) := by decide +kernel
theorem dX1_doWithCells_110 : decode cX1_doWithCells 110 = .ok (.aload_n 2, 1) := by decide +kernel
theorem dX1_doWithCells_111 : decode cX1_doWithCells 111 = .ok (.iload_n 3, 1) := by decide +kernel
theorem dX1_doWithCells_112 : decode cX1_doWithCells 112 = .ok (.iconst 3, 1) := by decide +kernel
theorem dX1_doWithCells_113 : decode cX1_doWithCells 113 = .ok (.invokevirtual 86, 3) := by decide +kernel
theorem dX1_doWithCells_116 : decode cX1_doWithCells 116 = .ok (.aload_n 2, 1) := by decide +kernel
theorem dX1_doWithCells_117 : decode cX1_doWithCells 117 = .ok (.getfield 66, 3) := by decide +kernel
theorem dX1_doWithCells_120 : decode cX1_doWithCells 120 = .ok (.invokestatic 124, 3) := by decide +kernel
theorem dX1_doWithCells_123 : decode cX1_doWithCells 123 = .ok (.iastore, 1) := by decide +kernel
theorem dX1_doWithCells_124 : decode cX1_doWithCells 124 = .ok (.goto 18, 3) := by decide +kernel
theorem dX1_doWithCells_127 : decode cX1_doWithCells 127 = .ok (.aload_n 0, 1) := by decide +kernel
theorem dX1_doWithCells_128 : decode cX1_doWithCells 128 = .ok (.getfield 24, 3) := by decide +kernel
theorem dX1_doWithCells_131 : decode cX1_doWithCells 131 = .ok (.iload_n 1, 1) := by decide +kernel
theorem dX1_doWithCells_132 : decode cX1_doWithCells 132 = .ok (.iload 4, 2) := by decide +kernel
theorem dX1_doWithCells_134 : decode cX1_doWithCells 134 = .ok (.aload_n 2, 1) := by decide +kernel
theorem dX1_doWithCells_135 : decode cX1_doWithCells 135 = .ok (.getfield 66, 3) := by decide +kernel
theorem dX1_doWithCells_138 : decode cX1_doWithCells 138 = .ok (.invokestatic 124, 3) := by decide +kernel
theorem dX1_doWithCells_141 : decode cX1_doWithCells 141 = .ok (.iastore, 1) := by decide +kernel
theorem dX1_doWithCells_142 : decode cX1_doWithCells 142 = .ok (.iconst 0, 1) := by decide +kernel
theorem dX1_doWithCells_143 : decode cX1_doWithCells 143 = .ok (.ireturn, 1) := by decide +kernel
theorem dX1_end_0 : decode cX1_end 0 = .ok (.iconst 0, 1) := by decide +kernel
theorem dX1_end_1 : decode cX1_end 1 = .ok (.istore_n 3, 1) := by decide +kernel
theorem dX1_end_2 : decode cX1_end 2 = .ok (.aload_n 0, 1) := by decide +kernel
theorem dX1_end_3 : decode cX1_end 3 = .ok (.getfield 28, 3) := by decide +kernel
theorem dX1_end_6 : decode cX1_end 6 = .ok (.iload_n 1, 1) := by decide +kernel
theorem dX1_end_7 : decode cX1_end 7 = .ok (.iload_n 2, 1) := by decide +kernel
theorem dX1_end_8 : decode cX1_end 8 = .ok (.iastore, 1) := by decide +kernel
theorem dX1_end_9 : decode cX1_end 9 = .ok (.iconst 0, 1) := by decide +kernel
theorem dX1_end_10 : decode cX1_end 10 = .ok (.istore 4, 2) := by decide +kernel
theorem dX1_end_12 : decode cX1_end 12 = .ok (.iload 4, 2) := by decide +kernel
theorem dX1_end_14 : decode cX1_end 14 = .ok (.iconst 3, 1) := by decide +kernel
theorem dX1_end_15 : decode cX1_end 15 = .ok (.if_icmp .ge 29, 3) := by decide +kernel
theorem dX1_end_18 : decode cX1_end 18 = .ok (.aload_n 0, 1) := by decide +kernel
theorem dX1_end_19 : decode cX1_end 19 = .ok (.getfield 44, 3) := by decide +kernel
theorem dX1_end_22 : decode cX1_end 22 = .ok (.iload 4, 2) := by decide +kernel
theorem dX1_end_24 : decode cX1_end 24 = .ok (.iaload, 1) := by decide +kernel
theorem dX1_end_25 : decode cX1_end 25 = .ok (.iload_n 1, 1) := by decide +kernel
theorem dX1_end_26 : decode cX1_end 26 = .ok (.if_icmp .ne 12, 3) := by decide +kernel
theorem dX1_end_29 : decode cX1_end 29 = .ok (.aload_n 0, 1) := by decide +kernel
theorem dX1_end_30 : decode cX1_end 30 = .ok (.iload 4, 2) := by decide +kernel
theorem dX1_end_32 : decode cX1_end 32 = .ok (.invokevirtual 101, 3) := by decide +kernel
theorem dX1_end_35 : decode cX1_end 35 = .ok (.iinc 3 1, 3) := by decide +kernel
theorem dX1_end_38 : decode cX1_end 38 = .ok (.iinc 4 1, 3) := by decide +kernel
theorem dX1_end_41 : decode cX1_end 41 = .ok (.goto (-29), 3) := by decide +kernel
theorem dX1_end_44 : decode cX1_end 44 = .ok (.aload_n 0, 1) := by decide +kernel
theorem dX1_end_45 : decode cX1_end 45 = .ok (.getfield 37, 3) := by decide +kernel
theorem dX1_end_48 : decode cX1_end 48 = .ok (.iload_n 1, 1) := by decide +kernel
theorem dX1_end_49 : decode cX1_end 49 = .ok (.iload_n 2, 1) := by decide +kernel
theorem dX1_end_50 : decode cX1_end 50 = .ok (.iconst 3, 1) := by decide +kernel
theorem dX1_end_51 : decode cX1_end 51 = .ok (.if_icmp .ne 7, 3) := by decide +kernel
theorem dX1_end_54 : decode cX1_end 54 = .ok (.iload_n 3, 1) := by decide +kernel
theorem dX1_end_55 : decode cX1_end 55 = .ok (.goto 4, 3) := by decide +kernel
theorem dX1_end_58 : decode cX1_end 58 = .ok (.iconst 0, 1) := by decide +kernel
theorem dX1_end_59 : decode cX1_end 59 = .ok (.iastore, 1) := by decide +kernel
theorem dX1_end_60 : decode cX1_end 60 = .ok (.return_, 1) := by decide +kernel
theorem dX1_enter_0 : decode cX1_enter 0 = .ok (.aload_n 0, 1) := by decide +kernel
theorem dX1_enter_1 : decode cX1_enter 1 = .ok (.getfield 44, 3) := by decide +kernel
theorem dX1_enter_4 : decode cX1_enter 4 = .ok (.iload_n 2, 1) := by decide +kernel
theorem dX1_enter_5 : decode cX1_enter 5 = .ok (.iaload, 1) := by decide +kernel
theorem dX1_enter_6 : decode cX1_enter 6 = .ok (.iconst (-1), 1) := by decide +kernel
theorem dX1_enter_7 : decode cX1_enter 7 = .ok (.if_icmp .ne 20, 3) := by decide +kernel
theorem dX1_enter_10 : decode cX1_enter 10 = .ok (.aload_n 0, 1) := by decide +kernel
theorem dX1_enter_11 : decode cX1_enter 11 = .ok (.getfield 44, 3) := by decide +kernel
theorem dX1_enter_14 : decode cX1_enter 14 = .ok (.iload_n 2, 1) := by decide +kernel
theorem dX1_enter_15 : decode cX1_enter 15 = .ok (.iload_n 1, 1) := by decide +kernel
theorem dX1_enter_16 : decode cX1_enter 16 = .ok (.iastore, 1) := by decide +kernel
theorem dX1_enter_17 : decode cX1_enter 17 = .ok (.aload_n 0, 1) := by decide +kernel
theorem dX1_enter_18 : decode cX1_enter 18 = .ok (.getfield 47, 3) := by decide +kernel
theorem dX1_enter_21 : decode cX1_enter 21 = .ok (.iload_n 2, 1) := by decide +kernel
theorem dX1_enter_22 : decode cX1_enter 22 = .ok (.iconst 1, 1) := by decide +kernel
theorem dX1_enter_23 : decode cX1_enter 23 = .ok (.iastore, 1) := by decide +kernel
theorem dX1_enter_24 : decode cX1_enter 24 = .ok (.goto 69, 3) := by decide +kernel
theorem dX1_enter_27 : decode cX1_enter 27 = .ok (.aload_n 0, 1) := by decide +kernel
theorem dX1_enter_28 : decode cX1_enter 28 = .ok (.getfield 44, 3) := by decide +kernel
theorem dX1_enter_31 : decode cX1_enter 31 = .ok (.iload_n 2, 1) := by decide +kernel
theorem dX1_enter_32 : decode cX1_enter 32 = .ok (.iaload, 1) := by decide +kernel
theorem dX1_enter_33 : decode cX1_enter 33 = .ok (.iload_n 1, 1) := by decide +kernel
theorem dX1_enter_34 : decode cX1_enter 34 = .ok (.if_icmp .eq 36, 3) := by decide +kernel
theorem dX1_enter_37 : decode cX1_enter 37 = .ok (.aload_n 0, 1) := by decide +kernel
theorem dX1_enter_38 : decode cX1_enter 38 = .ok (.getfield 28, 3) := by decide +kernel
theorem dX1_enter_41 : decode cX1_enter 41 = .ok (.iload_n 1, 1) := by decide +kernel
theorem dX1_enter_42 : decode cX1_enter 42 = .ok (.iconst 1, 1) := by decide +kernel
theorem dX1_enter_43 : decode cX1_enter 43 = .ok (.iastore, 1) := by decide +kernel
theorem dX1_enter_44 : decode cX1_enter 44 = .ok (.aload_n 0, 1) := by decide +kernel
theorem dX1_enter_45 : decode cX1_enter 45 = .ok (.getfield 31, 3) := by decide +kernel
theorem dX1_enter_48 : decode cX1_enter 48 = .ok (.iload_n 1, 1) := by decide +kernel
theorem dX1_enter_49 : decode cX1_enter 49 = .ok (.iconst 1, 1) := by decide +kernel
theorem dX1_enter_50 : decode cX1_enter 50 = .ok (.iastore, 1) := by decide +kernel
theorem dX1_enter_51 : decode cX1_enter 51 = .ok (.aload_n 0, 1) := by decide +kernel
theorem dX1_enter_52 : decode cX1_enter 52 = .ok (.getfield 50, 3) := by decide +kernel
theorem dX1_enter_55 : decode cX1_enter 55 = .ok (.iload_n 2, 1) := by decide +kernel
theorem dX1_enter_56 : decode cX1_enter 56 = .ok (.aload_n 0, 1) := by decide +kernel
theorem dX1_enter_57 : decode cX1_enter 57 = .ok (.getfield 50, 3) := by decide +kernel
theorem dX1_enter_60 : decode cX1_enter 60 = .ok (.iload_n 2, 1) := by decide +kernel
theorem dX1_enter_61 : decode cX1_enter 61 = .ok (.iaload, 1) := by decide +kernel
theorem dX1_enter_62 : decode cX1_enter 62 = .ok (.iload_n 1, 1) := by decide +kernel
theorem dX1_enter_63 : decode cX1_enter 63 = .ok (.invokestatic 105, 3) := by decide +kernel
theorem dX1_enter_66 : decode cX1_enter 66 = .ok (.iastore, 1) := by decide +kernel
theorem dX1_enter_67 : decode cX1_enter 67 = .ok (.goto 26, 3) := by decide +kernel
theorem dX1_enter_70 : decode cX1_enter 70 = .ok (.aload_n 0, 1) := by decide +kernel
theorem dX1_enter_71 : decode cX1_enter 71 = .ok (.getfield 47, 3) := by decide +kernel
theorem dX1_enter_74 : decode cX1_enter 74 = .ok (.iload_n 2, 1) := by decide +kernel
theorem dX1_enter_75 : decode cX1_enter 75 = .ok (.iaload, 1) := by decide +kernel
theorem dX1_enter_76 : decode cX1_enter 76 = .ok (.bipush 9, 2) := by decide +kernel
theorem dX1_enter_78 : decode cX1_enter 78 = .ok (.if_icmp .lt 5, 3) := by decide +kernel
theorem dX1_enter_81 : decode cX1_enter 81 = .ok (.iconst 3, 1) := by decide +kernel
theorem dX1_enter_82 : decode cX1_enter 82 = .ok (.ireturn, 1) := by decide +kernel
theorem dX1_enter_83 : decode cX1_enter 83 = .ok (.aload_n 0, 1) := by decide +kernel
theorem dX1_enter_84 : decode cX1_enter 84 = .ok (.getfield 47, 3) := by decide +kernel
theorem dX1_enter_87 : decode cX1_enter 87 = .ok (.iload_n 2, 1) := by decide +kernel
theorem dX1_enter_88 : decode cX1_enter 88 = .ok (.dup2, 1) := by decide +kernel
theorem dX1_enter_89 : decode cX1_enter 89 = .ok (.iaload, 1) := by decide +kernel
theorem dX1_enter_90 : decode cX1_enter 90 = .ok (.iconst 1, 1) := by decide +kernel
theorem dX1_enter_91 : decode cX1_enter 91 = .ok (.iadd, 1) := by decide +kernel
theorem dX1_enter_92 : decode cX1_enter 92 = .ok (.iastore, 1) := by decide +kernel
theorem dX1_enter_93 : decode cX1_enter 93 = .ok (.iconst 0, 1) := by decide +kernel
theorem dX1_enter_94 : decode cX1_enter 94 = .ok (.ireturn, 1) := by decide +kernel
theorem dX1_forgetReasons_0 : decode cX1_forgetReasons 0 = .ok (.aload_n 0, 1) := by decide +kernel
theorem dX1_forgetReasons_1 : decode cX1_forgetReasons 1 = .ok (.getfield 34, 3) := by decide +kernel
theorem dX1_forgetReasons_4 : decode cX1_forgetReasons 4 = .ok (.iconst 0, 1) := by decide +kernel
theorem dX1_forgetReasons_5 : decode cX1_forgetReasons 5 = .ok (.invokestatic 60, 3) := by decide +kernel
theorem dX1_forgetReasons_8 : decode cX1_forgetReasons 8 = .ok (.aload_n 0, 1) := by decide +kernel
theorem dX1_forgetReasons_9 : decode cX1_forgetReasons 9 = .ok (.getfield 37, 3) := by decide +kernel
theorem dX1_forgetReasons_12 : decode cX1_forgetReasons 12 = .ok (.iconst 0, 1) := by decide +kernel
theorem dX1_forgetReasons_13 : decode cX1_forgetReasons 13 = .ok (.invokestatic 60, 3) := by decide +kernel
theorem dX1_forgetReasons_16 : decode cX1_forgetReasons 16 = .ok (.return_, 1) := by decide +kernel
theorem dX1_free_0 : decode cX1_free 0 = .ok (.aload_n 0, 1) := by decide +kernel
theorem dX1_free_1 : decode cX1_free 1 = .ok (.getfield 44, 3) := by decide +kernel
theorem dX1_free_4 : decode cX1_free 4 = .ok (.iload_n 1, 1) := by decide +kernel
theorem dX1_free_5 : decode cX1_free 5 = .ok (.iconst (-1), 1) := by decide +kernel
theorem dX1_free_6 : decode cX1_free 6 = .ok (.iastore, 1) := by decide +kernel
theorem dX1_free_7 : decode cX1_free 7 = .ok (.aload_n 0, 1) := by decide +kernel
theorem dX1_free_8 : decode cX1_free 8 = .ok (.getfield 47, 3) := by decide +kernel
theorem dX1_free_11 : decode cX1_free 11 = .ok (.iload_n 1, 1) := by decide +kernel
theorem dX1_free_12 : decode cX1_free 12 = .ok (.iconst 0, 1) := by decide +kernel
theorem dX1_free_13 : decode cX1_free 13 = .ok (.iastore, 1) := by decide +kernel
theorem dX1_free_14 : decode cX1_free 14 = .ok (.aload_n 0, 1) := by decide +kernel
theorem dX1_free_15 : decode cX1_free 15 = .ok (.getfield 50, 3) := by decide +kernel
theorem dX1_free_18 : decode cX1_free 18 = .ok (.iload_n 1, 1) := by decide +kernel
theorem dX1_free_19 : decode cX1_free 19 = .ok (.iaload, 1) := by decide +kernel
theorem dX1_free_20 : decode cX1_free 20 = .ok (.iconst 0, 1) := by decide +kernel
theorem dX1_free_21 : decode cX1_free 21 = .ok (.invokestatic 113, 3) := by decide +kernel
theorem dX1_free_24 : decode cX1_free 24 = .ok (.istore_n 2, 1) := by decide +kernel
theorem dX1_free_25 : decode cX1_free 25 = .ok (.iload_n 2, 1) := by decide +kernel
theorem dX1_free_26 : decode cX1_free 26 = .ok (.ifCond .lt 56, 3) := by decide +kernel
theorem dX1_free_29 : decode cX1_free 29 = .ok (.iload_n 2, 1) := by decide +kernel
theorem dX1_free_30 : decode cX1_free 30 = .ok (.iconst 4, 1) := by decide +kernel
theorem dX1_free_31 : decode cX1_free 31 = .ok (.if_icmp .ge 51, 3) := by decide +kernel
theorem dX1_free_34 : decode cX1_free 34 = .ok (.aload_n 0, 1) := by decide +kernel
theorem dX1_free_35 : decode cX1_free 35 = .ok (.getfield 50, 3) := by decide +kernel
theorem dX1_free_38 : decode cX1_free 38 = .ok (.iload_n 1, 1) := by decide +kernel
theorem dX1_free_39 : decode cX1_free 39 = .ok (.aload_n 0, 1) := by decide +kernel
theorem dX1_free_40 : decode cX1_free 40 = .ok (.getfield 50, 3) := by decide +kernel
theorem dX1_free_43 : decode cX1_free 43 = .ok (.iload_n 1, 1) := by decide +kernel
theorem dX1_free_44 : decode cX1_free 44 = .ok (.iaload, 1) := by decide +kernel
theorem dX1_free_45 : decode cX1_free 45 = .ok (.invokestatic 116, 3) := by decide +kernel
theorem dX1_free_48 : decode cX1_free 48 = .ok (.iastore, 1) := by decide +kernel
theorem dX1_free_49 : decode cX1_free 49 = .ok (.aload_n 0, 1) := by decide +kernel
theorem dX1_free_50 : decode cX1_free 50 = .ok (.getfield 44, 3) := by decide +kernel
theorem dX1_free_53 : decode cX1_free 53 = .ok (.iload_n 1, 1) := by decide +kernel
theorem dX1_free_54 : decode cX1_free 54 = .ok (.iload_n 2, 1) := by decide +kernel
theorem dX1_free_55 : decode cX1_free 55 = .ok (.iastore, 1) := by decide +kernel
theorem dX1_free_56 : decode cX1_free 56 = .ok (.aload_n 0, 1) := by decide +kernel
theorem dX1_free_57 : decode cX1_free 57 = .ok (.getfield 47, 3) := by decide +kernel
theorem dX1_free_60 : decode cX1_free 60 = .ok (.iload_n 1, 1) := by decide +kernel
theorem dX1_free_61 : decode cX1_free 61 = .ok (.aload_n 0, 1) := by decide +kernel
theorem dX1_free_62 : decode cX1_free 62 = .ok (.getfield 31, 3) := by decide +kernel
theorem dX1_free_65 : decode cX1_free 65 = .ok (.iload_n 2, 1) := by decide +kernel
theorem dX1_free_66 : decode cX1_free 66 = .ok (.iaload, 1) := by decide +kernel
theorem dX1_free_67 : decode cX1_free 67 = .ok (.iastore, 1) := by decide +kernel
theorem dX1_free_68 : decode cX1_free 68 = .ok (.aload_n 0, 1) := by decide +kernel
theorem dX1_free_69 : decode cX1_free 69 = .ok (.getfield 31, 3) := by decide +kernel
theorem dX1_free_72 : decode cX1_free 72 = .ok (.iload_n 2, 1) := by decide +kernel
theorem dX1_free_73 : decode cX1_free 73 = .ok (.iconst 0, 1) := by decide +kernel
theorem dX1_free_74 : decode cX1_free 74 = .ok (.iastore, 1) := by decide +kernel
theorem dX1_free_75 : decode cX1_free 75 = .ok (.aload_n 0, 1) := by decide +kernel
theorem dX1_free_76 : decode cX1_free 76 = .ok (.getfield 28, 3) := by decide +kernel
theorem dX1_free_79 : decode cX1_free 79 = .ok (.iload_n 2, 1) := by decide +kernel
theorem dX1_free_80 : decode cX1_free 80 = .ok (.iconst 0, 1) := by decide +kernel
theorem dX1_free_81 : decode cX1_free 81 = .ok (.iastore, 1) := by decide +kernel
theorem dX1_free_82 : decode cX1_free 82 = .ok (.return_, 1) := by decide +kernel
theorem dX1_init_0 : decode cX1_init 0 = .ok (.aload_n 0, 1) := by decide +kernel
theorem dX1_init_1 : decode cX1_init 1 = .ok (.invokespecial 3, 3) := by decide +kernel
theorem dX1_init_4 : decode cX1_init 4 = .ok (.aload_n 0, 1) := by decide +kernel
theorem dX1_init_5 : decode cX1_init 5 = .ok (.iconst 0, 1) := by decide +kernel
theorem dX1_init_6 : decode cX1_init 6 = .ok (.putfield 9, 3) := by decide +kernel
theorem dX1_init_9 : decode cX1_init 9 = .ok (.aload_n 0, 1) := by decide +kernel
theorem dX1_init_10 : decode cX1_init 10 = .ok (.iconst (-1), 1) := by decide +kernel
theorem dX1_init_11 : decode cX1_init 11 = .ok (.putfield 15, 3) := by decide +kernel
theorem dX1_init_14 : decode cX1_init 14 = .ok (.aload_n 0, 1) := by decide +kernel
theorem dX1_init_15 : decode cX1_init 15 = .ok (.iconst 4, 1) := by decide +kernel
theorem dX1_init_16 : decode cX1_init 16 = .ok (.anewarray 18, 3) := by decide +kernel
theorem dX1_init_19 : decode cX1_init 19 = .ok (.putfield 20, 3) := by decide +kernel
theorem dX1_init_22 : decode cX1_init 22 = .ok (.aload_n 0, 1) := by decide +kernel
theorem dX1_init_23 : decode cX1_init 23 = .ok (.iconst 4, 1) := by decide +kernel
theorem dX1_init_24 : decode cX1_init 24 = .ok (.newarray .int, 2) := by decide +kernel
theorem dX1_init_26 : decode cX1_init 26 = .ok (.putfield 24, 3) := by decide +kernel
theorem dX1_init_29 : decode cX1_init 29 = .ok (.aload_n 0, 1) := by decide +kernel
theorem dX1_init_30 : decode cX1_init 30 = .ok (.iconst 4, 1) := by decide +kernel
theorem dX1_init_31 : decode cX1_init 31 = .ok (.newarray .int, 2) := by decide +kernel
theorem dX1_init_33 : decode cX1_init 33 = .ok (.putfield 28, 3) := by decide +kernel
theorem dX1_init_36 : decode cX1_init 36 = .ok (.aload_n 0, 1) := by decide +kernel
theorem dX1_init_37 : decode cX1_init 37 = .ok (.iconst 4, 1) := by decide +kernel
theorem dX1_init_38 : decode cX1_init 38 = .ok (.newarray .int, 2) := by decide +kernel
theorem dX1_init_40 : decode cX1_init 40 = .ok (.putfield 31, 3) := by decide +kernel
theorem dX1_init_43 : decode cX1_init 43 = .ok (.aload_n 0, 1) := by decide +kernel
theorem dX1_init_44 : decode cX1_init 44 = .ok (.iconst 4, 1) := by decide +kernel
theorem dX1_init_45 : decode cX1_init 45 = .ok (.newarray .int, 2) := by decide +kernel
theorem dX1_init_47 : decode cX1_init 47 = .ok (.putfield 34, 3) := by decide +kernel
theorem dX1_init_50 : decode cX1_init 50 = .ok (.aload_n 0, 1) := by decide +kernel
theorem dX1_init_51 : decode cX1_init 51 = .ok (.iconst 4, 1) := by decide +kernel
theorem dX1_init_52 : decode cX1_init 52 = .ok (.newarray .int, 2) := by decide +kernel
theorem dX1_init_54 : decode cX1_init 54 = .ok (.putfield 37, 3) := by decide +kernel
theorem dX1_init_57 : decode cX1_init 57 = .ok (.aload_n 0, 1) := by decide +kernel
theorem dX1_init_58 : decode cX1_init 58 = .ok (.iconst 3, 1) := by decide +kernel
theorem dX1_init_59 : decode cX1_init 59 = .ok (.newarray .boolean, 2) := by decide +kernel
theorem dX1_init_61 : decode cX1_init 61 = .ok (.putfield 40, 3) := by decide +kernel
theorem dX1_init_64 : decode cX1_init 64 = .ok (.aload_n 0, 1) := by decide +kernel
theorem dX1_init_65 : decode cX1_init 65 = .ok (.iconst 3, 1) := by decide +kernel
theorem dX1_init_66 : decode cX1_init 66 = .ok (.newarray .int, 2) := by decide +kernel
theorem dX1_init_68 : decode cX1_init 68 = .ok (.putfield 44, 3) := by decide +kernel
theorem dX1_init_71 : decode cX1_init 71 = .ok (.aload_n 0, 1) := by decide +kernel
theorem dX1_init_72 : decode cX1_init 72 = .ok (.iconst 3, 1) := by decide +kernel
theorem dX1_init_73 : decode cX1_init 73 = .ok (.newarray .int, 2) := by decide +kernel
theorem dX1_init_75 : decode cX1_init 75 = .ok (.putfield 47, 3) := by decide +kernel
theorem dX1_init_78 : decode cX1_init 78 = .ok (.aload_n 0, 1) := by decide +kernel
theorem dX1_init_79 : decode cX1_init 79 = .ok (.iconst 3, 1) := by decide +kernel
theorem dX1_init_80 : decode cX1_init 80 = .ok (.newarray .int, 2) := by decide +kernel
theorem dX1_init_82 : decode cX1_init 82 = .ok (.putfield 50, 3) := by decide +kernel
theorem dX1_init_85 : decode cX1_init 85 = .ok (.aload_n 0, 1) := by decide +kernel
theorem dX1_init_86 : decode cX1_init 86 = .ok (.iconst 3, 1) := by decide +kernel
theorem dX1_init_87 : decode cX1_init 87 = .ok (.newarray .int, 2) := by decide +kernel
theorem dX1_init_89 : decode cX1_init 89 = .ok (.putfield 53, 3) := by decide +kernel
theorem dX1_init_92 : decode cX1_init 92 = .ok (.aload_n 0, 1) := by decide +kernel
theorem dX1_init_93 : decode cX1_init 93 = .ok (.iconst 4, 1) := by decide +kernel
theorem dX1_init_94 : decode cX1_init 94 = .ok (.newarray .int, 2) := by decide +kernel
theorem dX1_init_96 : decode cX1_init 96 = .ok (.putfield 56, 3) := by decide +kernel
theorem dX1_init_99 : decode cX1_init 99 = .ok (.iconst 0, 1) := by decide +kernel
theorem dX1_init_100 : decode cX1_init 100 = .ok (.istore_n 1, 1) := by decide +kernel
theorem dX1_init_101 : decode cX1_init 101 = .ok (.iload_n 1, 1) := by decide +kernel
theorem dX1_init_102 : decode cX1_init 102 = .ok (.iconst 4, 1) := by decide +kernel
theorem dX1_init_103 : decode cX1_init 103 = .ok (.if_icmp .ge 22, 3) := by decide +kernel
theorem dX1_init_106 : decode cX1_init 106 = .ok (.aload_n 0, 1) := by decide +kernel
theorem dX1_init_107 : decode cX1_init 107 = .ok (.getfield 20, 3) := by decide +kernel
theorem dX1_init_110 : decode cX1_init 110 = .ok (.iload_n 1, 1) := by decide +kernel
theorem dX1_init_111 : decode cX1_init 111 = .ok (.new 18, 3) := by decide +kernel
theorem dX1_init_114 : decode cX1_init 114 = .ok (.dup, 1) := by decide +kernel
theorem dX1_init_115 : decode cX1_init 115 = .ok (.invokespecial 59, 3) := by decide +kernel
theorem dX1_init_118 : decode cX1_init 118 = .ok (.aastore, 1) := by decide +kernel
theorem dX1_init_119 : decode cX1_init 119 = .ok (.iinc 1 1, 3) := by decide +kernel
theorem dX1_init_122 : decode cX1_init 122 = .ok (.goto (-21), 3) := by decide +kernel
theorem dX1_init_125 : decode cX1_init 125 = .ok (.aload_n 0, 1) := by decide +kernel
theorem dX1_init_126 : decode cX1_init 126 = .ok (.getfield 44, 3) := by decide +kernel
theorem dX1_init_129 : decode cX1_init 129 = .ok (.iconst (-1), 1) := by decide +kernel
theorem dX1_init_130 : decode cX1_init 130 = .ok (.invokestatic 60, 3) := by decide +kernel
theorem dX1_init_133 : decode cX1_init 133 = .ok (.return_, 1) := by decide +kernel
theorem dX1_isOver_0 : decode cX1_isOver 0 = .ok (.aload_n 0, 1) := by decide +kernel
theorem dX1_isOver_1 : decode cX1_isOver 1 = .ok (.getfield 9, 3) := by decide +kernel
theorem dX1_isOver_4 : decode cX1_isOver 4 = .ok (.ifCond .le 27, 3) := by decide +kernel
theorem dX1_isOver_7 : decode cX1_isOver 7 = .ok (.aload_n 0, 1) := by decide +kernel
theorem dX1_isOver_8 : decode cX1_isOver 8 = .ok (.iconst 0, 1) := by decide +kernel
theorem dX1_isOver_9 : decode cX1_isOver 9 = .ok (.invokevirtual 133, 3) := by decide +kernel
theorem dX1_isOver_12 : decode cX1_isOver 12 = .ok (.aload_n 0, 1) := by decide +kernel
theorem dX1_isOver_13 : decode cX1_isOver 13 = .ok (.iconst 1, 1) := by decide +kernel
theorem dX1_isOver_14 : decode cX1_isOver 14 = .ok (.invokevirtual 133, 3) := by decide +kernel
theorem dX1_isOver_17 : decode cX1_isOver 17 = .ok (.ior, 1) := by decide +kernel
theorem dX1_isOver_18 : decode cX1_isOver 18 = .ok (.aload_n 0, 1) := by decide +kernel
theorem dX1_isOver_19 : decode cX1_isOver 19 = .ok (.iconst 2, 1) := by decide +kernel
theorem dX1_isOver_20 : decode cX1_isOver 20 = .ok (.invokevirtual 133, 3) := by decide +kernel
theorem dX1_isOver_23 : decode cX1_isOver 23 = .ok (.ior, 1) := by decide +kernel
theorem dX1_isOver_24 : decode cX1_isOver 24 = .ok (.ifCond .ne 7, 3) := by decide +kernel
theorem dX1_isOver_27 : decode cX1_isOver 27 = .ok (.iconst 1, 1) := by decide +kernel
theorem dX1_isOver_28 : decode cX1_isOver 28 = .ok (.goto 4, 3) := by decide +kernel
theorem dX1_isOver_31 : decode cX1_isOver 31 = .ok (.iconst 0, 1) := by decide +kernel
theorem dX1_isOver_32 : decode cX1_isOver 32 = .ok (.ireturn, 1) := by decide +kernel
theorem dX1_isUsed_0 : decode cX1_isUsed 0 = .ok (.aload_n 0, 1) := by decide +kernel
theorem dX1_isUsed_1 : decode cX1_isUsed 1 = .ok (.getfield 44, 3) := by decide +kernel
theorem dX1_isUsed_4 : decode cX1_isUsed 4 = .ok (.iload_n 1, 1) := by decide +kernel
theorem dX1_isUsed_5 : decode cX1_isUsed 5 = .ok (.iaload, 1) := by decide +kernel
theorem dX1_isUsed_6 : decode cX1_isUsed 6 = .ok (.iconst (-1), 1) := by decide +kernel
theorem dX1_isUsed_7 : decode cX1_isUsed 7 = .ok (.if_icmp .ne 21, 3) := by decide +kernel
theorem dX1_isUsed_10 : decode cX1_isUsed 10 = .ok (.aload_n 0, 1) := by decide +kernel
theorem dX1_isUsed_11 : decode cX1_isUsed 11 = .ok (.getfield 50, 3) := by decide +kernel
theorem dX1_isUsed_14 : decode cX1_isUsed 14 = .ok (.iload_n 1, 1) := by decide +kernel
theorem dX1_isUsed_15 : decode cX1_isUsed 15 = .ok (.iaload, 1) := by decide +kernel
theorem dX1_isUsed_16 : decode cX1_isUsed 16 = .ok (.ifCond .ne 12, 3) := by decide +kernel
theorem dX1_isUsed_19 : decode cX1_isUsed 19 = .ok (.aload_n 0, 1) := by decide +kernel
theorem dX1_isUsed_20 : decode cX1_isUsed 20 = .ok (.getfield 53, 3) := by decide +kernel
theorem dX1_isUsed_23 : decode cX1_isUsed 23 = .ok (.iload_n 1, 1) := by decide +kernel
theorem dX1_isUsed_24 : decode cX1_isUsed 24 = .ok (.iaload, 1) := by decide +kernel
theorem dX1_isUsed_25 : decode cX1_isUsed 25 = .ok (.ifCond .eq 7, 3) := by decide +kernel
theorem dX1_isUsed_28 : decode cX1_isUsed 28 = .ok (.iconst 1, 1) := by decide +kernel
theorem dX1_isUsed_29 : decode cX1_isUsed 29 = .ok (.goto 4, 3) := by decide +kernel
theorem dX1_isUsed_32 : decode cX1_isUsed 32 = .ok (.iconst 0, 1) := by decide +kernel
theorem dX1_isUsed_33 : decode cX1_isUsed 33 = .ok (.ireturn, 1) := by decide +kernel
theorem dX1_newTask_0 : decode cX1_newTask 0 = .ok (.aload_n 0, 1) := by decide +kernel
theorem dX1_newTask_1 : decode cX1_newTask 1 = .ok (.getfield 9, 3) := by decide +kernel
theorem dX1_newTask_4 : decode cX1_newTask 4 = .ok (.iconst 4, 1) := by decide +kernel
theorem dX1_newTask_5 : decode cX1_newTask 5 = .ok (.if_icmp .lt 6, 3) := by decide +kernel
theorem dX1_newTask_8 : decode cX1_newTask 8 = .ok (.bipush (-4), 2) := by decide +kernel
theorem dX1_newTask_10 : decode cX1_newTask 10 = .ok (.ireturn, 1) := by decide +kernel
theorem dX1_newTask_11 : decode cX1_newTask 11 = .ok (.aload_n 0, 1) := by decide +kernel
theorem dX1_newTask_12 : decode cX1_newTask 12 = .ok (.getfield 20, 3) := by decide +kernel
theorem dX1_newTask_15 : decode cX1_newTask 15 = .ok (.aload_n 0, 1) := by decide +kernel
theorem dX1_newTask_16 : decode cX1_newTask 16 = .ok (.getfield 9, 3) := by decide +kernel
theorem dX1_newTask_19 : decode cX1_newTask 19 = .ok (.aaload, 1) := by decide +kernel
theorem dX1_newTask_20 : decode cX1_newTask 20 = .ok (.iconst 0, 1) := by decide +kernel
theorem dX1_newTask_21 : decode cX1_newTask 21 = .ok (.putfield 66, 3) := by decide +kernel
theorem dX1_newTask_24 : decode cX1_newTask 24 = .ok (.aload_n 0, 1) := by decide +kernel
theorem dX1_newTask_25 : decode cX1_newTask 25 = .ok (.dup, 1) := by decide +kernel
theorem dX1_newTask_26 : decode cX1_newTask 26 = .ok (.getfield 9, 3) := by decide +kernel
theorem dX1_newTask_29 : decode cX1_newTask 29 = .ok (.iconst 1, 1) := by decide +kernel
theorem dX1_newTask_30 : decode cX1_newTask 30 = .ok (.iadd, 1) := by decide +kernel
theorem dX1_newTask_31 : decode cX1_newTask 31 = .ok (.putfield 9, 3) := by decide +kernel
theorem dX1_newTask_34 : decode cX1_newTask 34 = .ok (.aload_n 0, 1) := by decide +kernel
theorem dX1_newTask_35 : decode cX1_newTask 35 = .ok (.getfield 9, 3) := by decide +kernel
theorem dX1_newTask_38 : decode cX1_newTask 38 = .ok (.iconst 1, 1) := by decide +kernel
theorem dX1_newTask_39 : decode cX1_newTask 39 = .ok (.isub, 1) := by decide +kernel
theorem dX1_newTask_40 : decode cX1_newTask 40 = .ok (.ireturn, 1) := by decide +kernel
theorem dX1_ownedBy_0 : decode cX1_ownedBy 0 = .ok (.iconst 0, 1) := by decide +kernel
theorem dX1_ownedBy_1 : decode cX1_ownedBy 1 = .ok (.istore_n 2, 1) := by decide +kernel
theorem dX1_ownedBy_2 : decode cX1_ownedBy 2 = .ok (.iconst 0, 1) := by decide +kernel
theorem dX1_ownedBy_3 : decode cX1_ownedBy 3 = .ok (.istore_n 3, 1) := by decide +kernel
theorem dX1_ownedBy_4 : decode cX1_ownedBy 4 = .ok (.iload_n 3, 1) := by decide +kernel
theorem dX1_ownedBy_5 : decode cX1_ownedBy 5 = .ok (.iconst 3, 1) := by decide +kernel
theorem dX1_ownedBy_6 : decode cX1_ownedBy 6 = .ok (.if_icmp .ge 25, 3) := by decide +kernel
theorem dX1_ownedBy_9 : decode cX1_ownedBy 9 = .ok (.aload_n 0, 1) := by decide +kernel
theorem dX1_ownedBy_10 : decode cX1_ownedBy 10 = .ok (.getfield 44, 3) := by decide +kernel
theorem dX1_ownedBy_13 : decode cX1_ownedBy 13 = .ok (.iload_n 3, 1) := by decide +kernel
theorem dX1_ownedBy_14 : decode cX1_ownedBy 14 = .ok (.iaload, 1) := by decide +kernel
theorem dX1_ownedBy_15 : decode cX1_ownedBy 15 = .ok (.iload_n 1, 1) := by decide +kernel
theorem dX1_ownedBy_16 : decode cX1_ownedBy 16 = .ok (.if_icmp .ne 9, 3) := by decide +kernel
theorem dX1_ownedBy_19 : decode cX1_ownedBy 19 = .ok (.iload_n 2, 1) := by decide +kernel
theorem dX1_ownedBy_20 : decode cX1_ownedBy 20 = .ok (.iconst 1, 1) := by decide +kernel
theorem dX1_ownedBy_21 : decode cX1_ownedBy 21 = .ok (.iload_n 3, 1) := by decide +kernel
theorem dX1_ownedBy_22 : decode cX1_ownedBy 22 = .ok (.ishl, 1) := by decide +kernel
theorem dX1_ownedBy_23 : decode cX1_ownedBy 23 = .ok (.ior, 1) := by decide +kernel
theorem dX1_ownedBy_24 : decode cX1_ownedBy 24 = .ok (.istore_n 2, 1) := by decide +kernel
theorem dX1_ownedBy_25 : decode cX1_ownedBy 25 = .ok (.iinc 3 1, 3) := by decide +kernel
theorem dX1_ownedBy_28 : decode cX1_ownedBy 28 = .ok (.goto (-24), 3) := by decide +kernel
theorem dX1_ownedBy_31 : decode cX1_ownedBy 31 = .ok (.iload_n 2, 1) := by decide +kernel
theorem dX1_ownedBy_32 : decode cX1_ownedBy 32 = .ok (.ireturn, 1) := by decide +kernel
theorem dX1_startAgain_0 : decode cX1_startAgain 0 = .ok (.aload_n 0, 1) := by decide +kernel
theorem dX1_startAgain_1 : decode cX1_startAgain 1 = .ok (.iconst (-1), 1) := by decide +kernel
theorem dX1_startAgain_2 : decode cX1_startAgain 2 = .ok (.putfield 15, 3) := by decide +kernel
theorem dX1_startAgain_5 : decode cX1_startAgain 5 = .ok (.aload_n 0, 1) := by decide +kernel
theorem dX1_startAgain_6 : decode cX1_startAgain 6 = .ok (.getfield 24, 3) := by decide +kernel
theorem dX1_startAgain_9 : decode cX1_startAgain 9 = .ok (.iconst 0, 1) := by decide +kernel
theorem dX1_startAgain_10 : decode cX1_startAgain 10 = .ok (.invokestatic 60, 3) := by decide +kernel
theorem dX1_startAgain_13 : decode cX1_startAgain 13 = .ok (.aload_n 0, 1) := by decide +kernel
theorem dX1_startAgain_14 : decode cX1_startAgain 14 = .ok (.getfield 28, 3) := by decide +kernel
theorem dX1_startAgain_17 : decode cX1_startAgain 17 = .ok (.iconst 0, 1) := by decide +kernel
theorem dX1_startAgain_18 : decode cX1_startAgain 18 = .ok (.invokestatic 60, 3) := by decide +kernel
theorem dX1_startAgain_21 : decode cX1_startAgain 21 = .ok (.aload_n 0, 1) := by decide +kernel
theorem dX1_startAgain_22 : decode cX1_startAgain 22 = .ok (.getfield 31, 3) := by decide +kernel
theorem dX1_startAgain_25 : decode cX1_startAgain 25 = .ok (.iconst 0, 1) := by decide +kernel
theorem dX1_startAgain_26 : decode cX1_startAgain 26 = .ok (.invokestatic 60, 3) := by decide +kernel
theorem dX1_startAgain_29 : decode cX1_startAgain 29 = .ok (.aload_n 0, 1) := by decide +kernel
theorem dX1_startAgain_30 : decode cX1_startAgain 30 = .ok (.invokevirtual 69, 3) := by decide +kernel
theorem dX1_startAgain_33 : decode cX1_startAgain 33 = .ok (.aload_n 0, 1) := by decide +kernel
theorem dX1_startAgain_34 : decode cX1_startAgain 34 = .ok (.getfield 44, 3) := by decide +kernel
theorem dX1_startAgain_37 : decode cX1_startAgain 37 = .ok (.iconst (-1), 1) := by decide +kernel
theorem dX1_startAgain_38 : decode cX1_startAgain 38 = .ok (.invokestatic 60, 3) := by decide +kernel
theorem dX1_startAgain_41 : decode cX1_startAgain 41 = .ok (.aload_n 0, 1) := by decide +kernel
theorem dX1_startAgain_42 : decode cX1_startAgain 42 = .ok (.getfield 47, 3) := by decide +kernel
theorem dX1_startAgain_45 : decode cX1_startAgain 45 = .ok (.iconst 0, 1) := by decide +kernel
theorem dX1_startAgain_46 : decode cX1_startAgain 46 = .ok (.invokestatic 60, 3) := by decide +kernel
theorem dX1_startAgain_49 : decode cX1_startAgain 49 = .ok (.aload_n 0, 1) := by decide +kernel
theorem dX1_startAgain_50 : decode cX1_startAgain 50 = .ok (.getfield 50, 3) := by decide +kernel
theorem dX1_startAgain_53 : decode cX1_startAgain 53 = .ok (.iconst 0, 1) := by decide +kernel
theorem dX1_startAgain_54 : decode cX1_startAgain 54 = .ok (.invokestatic 60, 3) := by decide +kernel
theorem dX1_startAgain_57 : decode cX1_startAgain 57 = .ok (.aload_n 0, 1) := by decide +kernel
theorem dX1_startAgain_58 : decode cX1_startAgain 58 = .ok (.getfield 53, 3) := by decide +kernel
theorem dX1_startAgain_61 : decode cX1_startAgain 61 = .ok (.iconst 0, 1) := by decide +kernel
theorem dX1_startAgain_62 : decode cX1_startAgain 62 = .ok (.invokestatic 60, 3) := by decide +kernel
theorem dX1_startAgain_65 : decode cX1_startAgain 65 = .ok (.aload_n 0, 1) := by decide +kernel
theorem dX1_startAgain_66 : decode cX1_startAgain 66 = .ok (.getfield 56, 3) := by decide +kernel
theorem dX1_startAgain_69 : decode cX1_startAgain 69 = .ok (.iconst 0, 1) := by decide +kernel
theorem dX1_startAgain_70 : decode cX1_startAgain 70 = .ok (.invokestatic 60, 3) := by decide +kernel
theorem dX1_startAgain_73 : decode cX1_startAgain 73 = .ok (.return_, 1) := by decide +kernel
theorem dX1_sticks_0 : decode cX1_sticks 0 = .ok (.aload_n 0, 1) := by decide +kernel
theorem dX1_sticks_1 : decode cX1_sticks 1 = .ok (.iconst 0, 1) := by decide +kernel
theorem dX1_sticks_2 : decode cX1_sticks 2 = .ok (.invokevirtual 133, 3) := by decide +kernel
theorem dX1_sticks_5 : decode cX1_sticks 5 = .ok (.ifCond .ne 21, 3) := by decide +kernel
theorem dX1_sticks_8 : decode cX1_sticks 8 = .ok (.aload_n 0, 1) := by decide +kernel
theorem dX1_sticks_9 : decode cX1_sticks 9 = .ok (.iconst 1, 1) := by decide +kernel
theorem dX1_sticks_10 : decode cX1_sticks 10 = .ok (.invokevirtual 133, 3) := by decide +kernel
theorem dX1_sticks_13 : decode cX1_sticks 13 = .ok (.aload_n 0, 1) := by decide +kernel
theorem dX1_sticks_14 : decode cX1_sticks 14 = .ok (.iconst 2, 1) := by decide +kernel
theorem dX1_sticks_15 : decode cX1_sticks 15 = .ok (.invokevirtual 133, 3) := by decide +kernel
theorem dX1_sticks_18 : decode cX1_sticks 18 = .ok (.ior, 1) := by decide +kernel
theorem dX1_sticks_19 : decode cX1_sticks 19 = .ok (.ifCond .eq 7, 3) := by decide +kernel
theorem dX1_sticks_22 : decode cX1_sticks 22 = .ok (.iconst 1, 1) := by decide +kernel
theorem dX1_sticks_23 : decode cX1_sticks 23 = .ok (.goto 4, 3) := by decide +kernel
theorem dX1_sticks_26 : decode cX1_sticks 26 = .ok (.iconst 0, 1) := by decide +kernel
theorem dX1_sticks_27 : decode cX1_sticks 27 = .ok (.ireturn, 1) := by decide +kernel
theorem dX1_take_0 : decode cX1_take 0 = .ok (.aload_n 0, 1) := by decide +kernel
theorem dX1_take_1 : decode cX1_take 1 = .ok (.iload_n 1, 1) := by decide +kernel
theorem dX1_take_2 : decode cX1_take 2 = .ok (.putfield 15, 3) := by decide +kernel
theorem dX1_take_5 : decode cX1_take 5 = .ok (.aload_n 0, 1) := by decide +kernel
theorem dX1_take_6 : decode cX1_take 6 = .ok (.getfield 20, 3) := by decide +kernel
theorem dX1_take_9 : decode cX1_take 9 = .ok (.iload_n 1, 1) := by decide +kernel
theorem dX1_take_10 : decode cX1_take 10 = .ok (.aaload, 1) := by decide +kernel
theorem dX1_take_11 : decode cX1_take 11 = .ok (.astore_n 2, 1) := by decide +kernel
theorem dX1_take_12 : decode cX1_take 12 = .ok (.aload_n 0, 1) := by decide +kernel
theorem dX1_take_13 : decode cX1_take 13 = .ok (.getfield 24, 3) := by decide +kernel
theorem dX1_take_16 : decode cX1_take 16 = .ok (.iload_n 1, 1) := by decide +kernel
theorem dX1_take_17 : decode cX1_take 17 = .ok (.iaload, 1) := by decide +kernel
theorem dX1_take_18 : decode cX1_take 18 = .ok (.istore_n 3, 1) := by decide +kernel
theorem dX1_take_19 : decode cX1_take 19 = .ok (.iload_n 3, 1) := by decide +kernel
theorem dX1_take_20 : decode cX1_take 20 = .ok (.aload_n 2, 1) := by decide +kernel
theorem dX1_take_21 : decode cX1_take 21 = .ok (.getfield 66, 3) := by decide +kernel
theorem dX1_take_24 : decode cX1_take 24 = .ok (.if_icmp .lt 10, 3) := by decide +kernel
theorem dX1_take_27 : decode cX1_take 27 = .ok (.aload_n 0, 1) := by decide +kernel
theorem dX1_take_28 : decode cX1_take 28 = .ok (.iload_n 1, 1) := by decide +kernel
theorem dX1_take_29 : decode cX1_take 29 = .ok (.iconst 3, 1) := by decide +kernel
theorem dX1_take_30 : decode cX1_take 30 = .ok (.invokevirtual 82, 3) := by decide +kernel
theorem dX1_take_33 : decode cX1_take 33 = .ok (.return_, 1) := by decide +kernel
theorem dX1_take_34 : decode cX1_take 34 = .ok (.aload_n 0, 1) := by decide +kernel
theorem dX1_take_35 : decode cX1_take 35 = .ok (.getfield 24, 3) := by decide +kernel
theorem dX1_take_38 : decode cX1_take 38 = .ok (.iload_n 1, 1) := by decide +kernel
theorem dX1_take_39 : decode cX1_take 39 = .ok (.iload_n 3, 1) := by decide +kernel
theorem dX1_take_40 : decode cX1_take 40 = .ok (.iconst 1, 1) := by decide +kernel
theorem dX1_take_41 : decode cX1_take 41 = .ok (.iadd, 1) := by decide +kernel
theorem dX1_take_42 : decode cX1_take 42 = .ok (.iastore, 1) := by decide +kernel
theorem dX1_take_43 : decode cX1_take 43 = .ok (.aload_n 2, 1) := by decide +kernel
theorem dX1_take_44 : decode cX1_take 44 = .ok (.iload_n 3, 1) := by decide +kernel
theorem dX1_take_45 : decode cX1_take 45 = .ok (.iconst 0, 1) := by decide +kernel
theorem dX1_take_46 : decode cX1_take 46 = .ok (.invokevirtual 86, 3) := by decide +kernel
theorem dX1_take_49 : decode cX1_take 49 = .ok (.iconst 4, 1) := by decide +kernel
theorem dX1_take_50 : decode cX1_take 50 = .ok (.if_icmp .gt 23, 3) := by decide +kernel
theorem dX1_take_53 : decode cX1_take 53 = .ok (.aload_n 0, 1) := by decide +kernel
theorem dX1_take_54 : decode cX1_take 54 = .ok (.iload_n 1, 1) := by decide +kernel
theorem dX1_take_55 : decode cX1_take 55 = .ok (.aload_n 2, 1) := by decide +kernel
theorem dX1_take_56 : decode cX1_take 56 = .ok (.iload_n 3, 1) := by decide +kernel
theorem dX1_take_57 : decode cX1_take 57 = .ok (.iconst 0, 1) := by decide +kernel
theorem dX1_take_58 : decode cX1_take 58 = .ok (.invokevirtual 86, 3) := by decide +kernel
theorem dX1_take_61 : decode cX1_take 61 = .ok (.aload_n 2, 1) := by decide +kernel
theorem dX1_take_62 : decode cX1_take 62 = .ok (.iload_n 3, 1) := by decide +kernel
theorem dX1_take_63 : decode cX1_take 63 = .ok (.iconst 1, 1) := by decide +kernel
theorem dX1_take_64 : decode cX1_take 64 = .ok (.invokevirtual 86, 3) := by decide +kernel
theorem dX1_take_67 : decode cX1_take 67 = .ok (.invokevirtual 90, 3) := by decide +kernel
theorem dX1_take_70 : decode cX1_take 70 = .ok (.goto 10, 3) := by decide +kernel
theorem dX1_take_73 : decode cX1_take 73 = .ok (.aload_n 0, 1) := by decide +kernel
theorem dX1_take_74 : decode cX1_take 74 = .ok (.iload_n 1, 1) := by decide +kernel
theorem dX1_take_75 : decode cX1_take 75 = .ok (.aload_n 2, 1) := by decide +kernel
theorem dX1_take_76 : decode cX1_take 76 = .ok (.iload_n 3, 1) := by decide +kernel
theorem dX1_take_77 : decode cX1_take 77 = .ok (.invokevirtual 94, 3) := by decide +kernel
theorem dX1_take_80 : decode cX1_take 80 = .ok (.istore 4, 2) := by decide +kernel
theorem dX1_take_82 : decode cX1_take 82 = .ok (.iload 4, 2) := by decide +kernel
theorem dX1_take_84 : decode cX1_take 84 = .ok (.ifCond .eq 24, 3) := by decide +kernel
theorem dX1_take_87 : decode cX1_take 87 = .ok (.aload_n 0, 1) := by decide +kernel
theorem dX1_take_88 : decode cX1_take 88 = .ok (.getfield 24, 3) := by decide +kernel
theorem dX1_take_91 : decode cX1_take 91 = .ok (.iload_n 1, 1) := by decide +kernel
theorem dX1_take_92 : decode cX1_take 92 = .ok (.iload_n 3, 1) := by decide +kernel
theorem dX1_take_93 : decode cX1_take 93 = .ok (.iastore, 1) := by decide +kernel
theorem dX1_take_94 : decode cX1_take 94 = .ok (.aload_n 0, 1) := by decide +kernel
theorem dX1_take_95 : decode cX1_take 95 = .ok (.getfield 34, 3) := by decide +kernel
theorem dX1_take_98 : decode cX1_take 98 = .ok (.iload_n 1, 1) := by decide +kernel
theorem dX1_take_99 : decode cX1_take 99 = .ok (.iload 4, 2) := by decide +kernel
theorem dX1_take_101 : decode cX1_take 101 = .ok (.iastore, 1) := by decide +kernel
theorem dX1_take_102 : decode cX1_take 102 = .ok (.aload_n 0, 1) := by decide +kernel
theorem dX1_take_103 : decode cX1_take 103 = .ok (.iload_n 1, 1) := by decide +kernel
theorem dX1_take_104 : decode cX1_take 104 = .ok (.iconst 4, 1) := by decide +kernel
theorem dX1_take_105 : decode cX1_take 105 = .ok (.invokevirtual 82, 3) := by decide +kernel
theorem dX1_take_108 : decode cX1_take 108 = .ok (.return_, 1) := by decide +kernel
theorem dX1_wake_0 : decode cX1_wake 0 = .ok (.iconst 0, 1) := by decide +kernel
theorem dX1_wake_1 : decode cX1_wake 1 = .ok (.istore_n 3, 1) := by decide +kernel
theorem dX1_wake_2 : decode cX1_wake 2 = .ok (.iload_n 3, 1) := by decide +kernel
theorem dX1_wake_3 : decode cX1_wake 3 = .ok (.iload_n 2, 1) := by decide +kernel
theorem dX1_wake_4 : decode cX1_wake 4 = .ok (.if_icmp .ge 81, 3) := by decide +kernel
theorem dX1_wake_7 : decode cX1_wake 7 = .ok (.aload_n 0, 1) := by decide +kernel
theorem dX1_wake_8 : decode cX1_wake 8 = .ok (.getfield 53, 3) := by decide +kernel
theorem dX1_wake_11 : decode cX1_wake 11 = .ok (.iload_n 1, 1) := by decide +kernel
theorem dX1_wake_12 : decode cX1_wake 12 = .ok (.iaload, 1) := by decide +kernel
theorem dX1_wake_13 : decode cX1_wake 13 = .ok (.ifCond .eq 72, 3) := by decide +kernel
theorem dX1_wake_16 : decode cX1_wake 16 = .ok (.aload_n 0, 1) := by decide +kernel
theorem dX1_wake_17 : decode cX1_wake 17 = .ok (.getfield 53, 3) := by decide +kernel
theorem dX1_wake_20 : decode cX1_wake 20 = .ok (.iload_n 1, 1) := by decide +kernel
theorem dX1_wake_21 : decode cX1_wake 21 = .ok (.iaload, 1) := by decide +kernel
theorem dX1_wake_22 : decode cX1_wake 22 = .ok (.iconst 0, 1) := by decide +kernel
theorem dX1_wake_23 : decode cX1_wake 23 = .ok (.invokestatic 113, 3) := by decide +kernel
theorem dX1_wake_26 : decode cX1_wake 26 = .ok (.istore 4, 2) := by decide +kernel
theorem dX1_wake_28 : decode cX1_wake 28 = .ok (.aload_n 0, 1) := by decide +kernel
theorem dX1_wake_29 : decode cX1_wake 29 = .ok (.getfield 53, 3) := by decide +kernel
theorem dX1_wake_32 : decode cX1_wake 32 = .ok (.iload_n 1, 1) := by decide +kernel
theorem dX1_wake_33 : decode cX1_wake 33 = .ok (.aload_n 0, 1) := by decide +kernel
theorem dX1_wake_34 : decode cX1_wake 34 = .ok (.getfield 53, 3) := by decide +kernel
theorem dX1_wake_37 : decode cX1_wake 37 = .ok (.iload_n 1, 1) := by decide +kernel
theorem dX1_wake_38 : decode cX1_wake 38 = .ok (.iaload, 1) := by decide +kernel
theorem dX1_wake_39 : decode cX1_wake 39 = .ok (.invokestatic 116, 3) := by decide +kernel
theorem dX1_wake_42 : decode cX1_wake 42 = .ok (.iastore, 1) := by decide +kernel
theorem dX1_wake_43 : decode cX1_wake 43 = .ok (.iload 4, 2) := by decide +kernel
theorem dX1_wake_45 : decode cX1_wake 45 = .ok (.ifCond .lt 34, 3) := by decide +kernel
theorem dX1_wake_48 : decode cX1_wake 48 = .ok (.iload 4, 2) := by decide +kernel
theorem dX1_wake_50 : decode cX1_wake 50 = .ok (.iconst 4, 1) := by decide +kernel
theorem dX1_wake_51 : decode cX1_wake 51 = .ok (.if_icmp .ge 28, 3) := by decide +kernel
theorem dX1_wake_54 : decode cX1_wake 54 = .ok (.aload_n 0, 1) := by decide +kernel
theorem dX1_wake_55 : decode cX1_wake 55 = .ok (.getfield 28, 3) := by decide +kernel
theorem dX1_wake_58 : decode cX1_wake 58 = .ok (.iload 4, 2) := by decide +kernel
theorem dX1_wake_60 : decode cX1_wake 60 = .ok (.iconst 1, 1) := by decide +kernel
theorem dX1_wake_61 : decode cX1_wake 61 = .ok (.iastore, 1) := by decide +kernel
theorem dX1_wake_62 : decode cX1_wake 62 = .ok (.aload_n 0, 1) := by decide +kernel
theorem dX1_wake_63 : decode cX1_wake 63 = .ok (.getfield 50, 3) := by decide +kernel
theorem dX1_wake_66 : decode cX1_wake 66 = .ok (.iload_n 1, 1) := by decide +kernel
theorem dX1_wake_67 : decode cX1_wake 67 = .ok (.aload_n 0, 1) := by decide +kernel
theorem dX1_wake_68 : decode cX1_wake 68 = .ok (.getfield 50, 3) := by decide +kernel
theorem dX1_wake_71 : decode cX1_wake 71 = .ok (.iload_n 1, 1) := by decide +kernel
theorem dX1_wake_72 : decode cX1_wake 72 = .ok (.iaload, 1) := by decide +kernel
theorem dX1_wake_73 : decode cX1_wake 73 = .ok (.iload 4, 2) := by decide +kernel
theorem dX1_wake_75 : decode cX1_wake 75 = .ok (.invokestatic 105, 3) := by decide +kernel
theorem dX1_wake_78 : decode cX1_wake 78 = .ok (.iastore, 1) := by decide +kernel
theorem dX1_wake_79 : decode cX1_wake 79 = .ok (.iinc 3 1, 3) := by decide +kernel
theorem dX1_wake_82 : decode cX1_wake 82 = .ok (.goto (-80), 3) := by decide +kernel
theorem dX1_wake_85 : decode cX1_wake 85 = .ok (.return_, 1) := by decide +kernel
theorem dX1_whereStands_0 : decode cX1_whereStands 0 = .ok (.iconst 0, 1) := by decide +kernel
theorem dX1_whereStands_1 : decode cX1_whereStands 1 = .ok (.istore_n 2, 1) := by decide +kernel
theorem dX1_whereStands_2 : decode cX1_whereStands 2 = .ok (.iload_n 2, 1) := by decide +kernel
theorem dX1_whereStands_3 : decode cX1_whereStands 3 = .ok (.iconst 3, 1) := by decide +kernel
theorem dX1_whereStands_4 : decode cX1_whereStands 4 = .ok (.if_icmp .ge 37, 3) := by decide +kernel
theorem dX1_whereStands_7 : decode cX1_whereStands 7 = .ok (.aload_n 0, 1) := by decide +kernel
theorem dX1_whereStands_8 : decode cX1_whereStands 8 = .ok (.getfield 50, 3) := by decide +kernel
theorem dX1_whereStands_11 : decode cX1_whereStands 11 = .ok (.iload_n 2, 1) := by decide +kernel
theorem dX1_whereStands_12 : decode cX1_whereStands 12 = .ok (.iaload, 1) := by decide +kernel
theorem dX1_whereStands_13 : decode cX1_whereStands 13 = .ok (.iload_n 1, 1) := by decide +kernel
theorem dX1_whereStands_14 : decode cX1_whereStands 14 = .ok (.invokestatic 129, 3) := by decide +kernel
theorem dX1_whereStands_17 : decode cX1_whereStands 17 = .ok (.ifCond .ne 16, 3) := by decide +kernel
theorem dX1_whereStands_20 : decode cX1_whereStands 20 = .ok (.aload_n 0, 1) := by decide +kernel
theorem dX1_whereStands_21 : decode cX1_whereStands 21 = .ok (.getfield 53, 3) := by decide +kernel
theorem dX1_whereStands_24 : decode cX1_whereStands 24 = .ok (.iload_n 2, 1) := by decide +kernel
theorem dX1_whereStands_25 : decode cX1_whereStands 25 = .ok (.iaload, 1) := by decide +kernel
theorem dX1_whereStands_26 : decode cX1_whereStands 26 = .ok (.iload_n 1, 1) := by decide +kernel
theorem dX1_whereStands_27 : decode cX1_whereStands 27 = .ok (.invokestatic 129, 3) := by decide +kernel
theorem dX1_whereStands_30 : decode cX1_whereStands 30 = .ok (.ifCond .eq 5, 3) := by decide +kernel
theorem dX1_whereStands_33 : decode cX1_whereStands 33 = .ok (.iload_n 2, 1) := by decide +kernel
theorem dX1_whereStands_34 : decode cX1_whereStands 34 = .ok (.ireturn, 1) := by decide +kernel
theorem dX1_whereStands_35 : decode cX1_whereStands 35 = .ok (.iinc 2 1, 3) := by decide +kernel
theorem dX1_whereStands_38 : decode cX1_whereStands 38 = .ok (.goto (-36), 3) := by decide +kernel
theorem dX1_whereStands_41 : decode cX1_whereStands 41 = .ok (.bipush (-5), 2) := by decide +kernel
theorem dX1_whereStands_43 : decode cX1_whereStands 43 = .ok (.ireturn, 1) := by decide +kernel
theorem dX2_begin_0 : decode cX2_begin 0 = .ok (.aload_n 0, 1) := by decide +kernel
theorem dX2_begin_1 : decode cX2_begin 1 = .ok (.getfield 9, 3) := by decide +kernel
theorem dX2_begin_4 : decode cX2_begin 4 = .ok (.iload_n 1, 1) := by decide +kernel
theorem dX2_begin_5 : decode cX2_begin 5 = .ok (.iload_n 2, 1) := by decide +kernel
theorem dX2_begin_6 : decode cX2_begin 6 = .ok (.iastore, 1) := by decide +kernel
theorem dX2_begin_7 : decode cX2_begin 7 = .ok (.aload_n 0, 1) := by decide +kernel
theorem dX2_begin_8 : decode cX2_begin 8 = .ok (.getfield 17, 3) := by decide +kernel
theorem dX2_begin_11 : decode cX2_begin 11 = .ok (.iload_n 1, 1) := by decide +kernel
theorem dX2_begin_12 : decode cX2_begin 12 = .ok (.aaload, 1) := by decide +kernel
theorem dX2_begin_13 : decode cX2_begin 13 = .ok (.iconst 0, 1) := by decide +kernel
theorem dX2_begin_14 : decode cX2_begin 14 = .ok (.invokestatic 20, 3) := by decide +kernel
theorem dX2_begin_17 : decode cX2_begin 17 = .ok (.return_, 1) := by decide +kernel
theorem dX2_hasPlace_0 : decode cX2_hasPlace 0 = .ok (.iload_n 2, 1) := by decide +kernel
theorem dX2_hasPlace_1 : decode cX2_hasPlace 1 = .ok (.ifCond .lt 17, 3) := by decide +kernel
theorem dX2_hasPlace_4 : decode cX2_hasPlace 4 = .ok (.iload_n 2, 1) := by decide +kernel
theorem dX2_hasPlace_5 : decode cX2_hasPlace 5 = .ok (.aload_n 0, 1) := by decide +kernel
theorem dX2_hasPlace_6 : decode cX2_hasPlace 6 = .ok (.getfield 9, 3) := by decide +kernel
theorem dX2_hasPlace_9 : decode cX2_hasPlace 9 = .ok (.iload_n 1, 1) := by decide +kernel
theorem dX2_hasPlace_10 : decode cX2_hasPlace 10 = .ok (.iaload, 1) := by decide +kernel
theorem dX2_hasPlace_11 : decode cX2_hasPlace 11 = .ok (.if_icmp .ge 7, 3) := by decide +kernel
theorem dX2_hasPlace_14 : decode cX2_hasPlace 14 = .ok (.iconst 1, 1) := by decide +kernel
theorem dX2_hasPlace_15 : decode cX2_hasPlace 15 = .ok (.goto 4, 3) := by decide +kernel
theorem dX2_hasPlace_18 : decode cX2_hasPlace 18 = .ok (.iconst 0, 1) := by decide +kernel
theorem dX2_hasPlace_19 : decode cX2_hasPlace 19 = .ok (.ireturn, 1) := by decide +kernel
theorem dX2_init_0 : decode cX2_init 0 = .ok (.aload_n 0, 1) := by decide +kernel
theorem dX2_init_1 : decode cX2_init 1 = .ok (.invokespecial 3, 3) := by decide +kernel
theorem dX2_init_4 : decode cX2_init 4 = .ok (.aload_n 0, 1) := by decide +kernel
theorem dX2_init_5 : decode cX2_init 5 = .ok (.iconst 4, 1) := by decide +kernel
theorem dX2_init_6 : decode cX2_init 6 = .ok (.newarray .int, 2) := by decide +kernel
theorem dX2_init_8 : decode cX2_init 8 = .ok (.putfield 9, 3) := by decide +kernel
theorem dX2_init_11 : decode cX2_init 11 = .ok (.aload_n 0, 1) := by decide +kernel
theorem dX2_init_12 : decode cX2_init 12 = .ok (.iconst 4, 1) := by decide +kernel
theorem dX2_init_13 : decode cX2_init 13 = .ok (.bipush 40, 2) := by decide +kernel
theorem dX2_init_15 : decode cX2_init 15 = .ok (.multianewarray 15 2, 4) := by decide +kernel
theorem dX2_init_19 : decode cX2_init 19 = .ok (.putfield 17, 3) := by decide +kernel
theorem dX2_init_22 : decode cX2_init 22 = .ok (.aload_n 0, 1) := by decide +kernel
theorem dX2_init_23 : decode cX2_init 23 = .ok (.getfield 9, 3) := by decide +kernel
theorem dX2_init_26 : decode cX2_init 26 = .ok (.bipush (-11), 2) := by decide +kernel
theorem dX2_init_28 : decode cX2_init 28 = .ok (.invokestatic 20, 3) := by decide +kernel
theorem dX2_init_31 : decode cX2_init 31 = .ok (.return_, 1) := by decide +kernel
theorem dX2_refusalOf_0 : decode cX2_refusalOf 0 = .ok (.iload_n 1, 1) := by decide +kernel
theorem dX2_refusalOf_1 : decode cX2_refusalOf 1 = .ok (.invokestatic 26, 3) := by decide +kernel
theorem dX2_refusalOf_4 : decode cX2_refusalOf 4 = .ok (.ifCond .ne 5, 3) := by decide +kernel
theorem dX2_refusalOf_7 : decode cX2_refusalOf 7 = .ok (.iconst (-1), 1) := by decide +kernel
theorem dX2_refusalOf_8 : decode cX2_refusalOf 8 = .ok (.ireturn, 1) := by decide +kernel
theorem dX2_refusalOf_9 : decode cX2_refusalOf 9 = .ok (.aload_n 0, 1) := by decide +kernel
theorem dX2_refusalOf_10 : decode cX2_refusalOf 10 = .ok (.getfield 9, 3) := by decide +kernel
theorem dX2_refusalOf_13 : decode cX2_refusalOf 13 = .ok (.iload_n 1, 1) := by decide +kernel
theorem dX2_refusalOf_14 : decode cX2_refusalOf 14 = .ok (.iaload, 1) := by decide +kernel
theorem dX2_refusalOf_15 : decode cX2_refusalOf 15 = .ok (.ifCond .ge 8, 3) := by decide +kernel
theorem dX2_refusalOf_18 : decode cX2_refusalOf 18 = .ok (.bipush (-11), 2) := by decide +kernel
theorem dX2_refusalOf_20 : decode cX2_refusalOf 20 = .ok (.goto 4, 3) := by decide +kernel
theorem dX2_refusalOf_23 : decode cX2_refusalOf 23 = .ok (.iconst 0, 1) := by decide +kernel
theorem dX2_refusalOf_24 : decode cX2_refusalOf 24 = .ok (.ireturn, 1) := by decide +kernel
theorem dX3_append_0 : decode cX3_append 0 = .ok (.aload_n 0, 1) := by decide +kernel
theorem dX3_append_1 : decode cX3_append 1 = .ok (.getfield 9, 3) := by decide +kernel
theorem dX3_append_4 : decode cX3_append 4 = .ok (.bipush 12, 2) := by decide +kernel
theorem dX3_append_6 : decode cX3_append 6 = .ok (.if_icmp .ge 62, 3) := by decide +kernel
theorem dX3_append_9 : decode cX3_append 9 = .ok (.aload_n 0, 1) := by decide +kernel
theorem dX3_append_10 : decode cX3_append 10 = .ok (.getfield 9, 3) := by decide +kernel
theorem dX3_append_13 : decode cX3_append 13 = .ok (.iconst 4, 1) := by decide +kernel
theorem dX3_append_14 : decode cX3_append 14 = .ok (.imul, 1) := by decide +kernel
theorem dX3_append_15 : decode cX3_append 15 = .ok (.istore 5, 2) := by decide +kernel
theorem dX3_append_17 : decode cX3_append 17 = .ok (.aload_n 0, 1) := by decide +kernel
theorem dX3_append_18 : decode cX3_append 18 = .ok (.getfield 15, 3) := by decide +kernel
theorem dX3_append_21 : decode cX3_append 21 = .ok (.iload 5, 2) := by decide +kernel
theorem dX3_append_23 : decode cX3_append 23 = .ok (.iconst 0, 1) := by decide +kernel
theorem dX3_append_24 : decode cX3_append 24 = .ok (.iadd, 1) := by decide +kernel
theorem dX3_append_25 : decode cX3_append 25 = .ok (.iload_n 1, 1) := by decide +kernel
theorem dX3_append_26 : decode cX3_append 26 = .ok (.iastore, 1) := by decide +kernel
theorem dX3_append_27 : decode cX3_append 27 = .ok (.aload_n 0, 1) := by decide +kernel
theorem dX3_append_28 : decode cX3_append 28 = .ok (.getfield 15, 3) := by decide +kernel
theorem dX3_append_31 : decode cX3_append 31 = .ok (.iload 5, 2) := by decide +kernel
theorem dX3_append_33 : decode cX3_append 33 = .ok (.iconst 1, 1) := by decide +kernel
theorem dX3_append_34 : decode cX3_append 34 = .ok (.iadd, 1) := by decide +kernel
theorem dX3_append_35 : decode cX3_append 35 = .ok (.iload_n 2, 1) := by decide +kernel
theorem dX3_append_36 : decode cX3_append 36 = .ok (.iastore, 1) := by decide +kernel
theorem dX3_append_37 : decode cX3_append 37 = .ok (.aload_n 0, 1) := by decide +kernel
theorem dX3_append_38 : decode cX3_append 38 = .ok (.getfield 15, 3) := by decide +kernel
theorem dX3_append_41 : decode cX3_append 41 = .ok (.iload 5, 2) := by decide +kernel
theorem dX3_append_43 : decode cX3_append 43 = .ok (.iconst 2, 1) := by decide +kernel
theorem dX3_append_44 : decode cX3_append 44 = .ok (.iadd, 1) := by decide +kernel
theorem dX3_append_45 : decode cX3_append 45 = .ok (.iload_n 3, 1) := by decide +kernel
theorem dX3_append_46 : decode cX3_append 46 = .ok (.iastore, 1) := by decide +kernel
theorem dX3_append_47 : decode cX3_append 47 = .ok (.aload_n 0, 1) := by decide +kernel
theorem dX3_append_48 : decode cX3_append 48 = .ok (.getfield 15, 3) := by decide +kernel
theorem dX3_append_51 : decode cX3_append 51 = .ok (.iload 5, 2) := by decide +kernel
theorem dX3_append_53 : decode cX3_append 53 = .ok (.iconst 3, 1) := by decide +kernel
theorem dX3_append_54 : decode cX3_append 54 = .ok (.iadd, 1) := by decide +kernel
theorem dX3_append_55 : decode cX3_append 55 = .ok (.iload 4, 2) := by decide +kernel
theorem dX3_append_57 : decode cX3_append 57 = .ok (.iastore, 1) := by decide +kernel
theorem dX3_append_58 : decode cX3_append 58 = .ok (.aload_n 0, 1) := by decide +kernel
theorem dX3_append_59 : decode cX3_append 59 = .ok (.dup, 1) := by decide +kernel
theorem dX3_append_60 : decode cX3_append 60 = .ok (.getfield 9, 3) := by decide +kernel
theorem dX3_append_63 : decode cX3_append 63 = .ok (.iconst 1, 1) := by decide +kernel
theorem dX3_append_64 : decode cX3_append 64 = .ok (.iadd, 1) := by decide +kernel
theorem dX3_append_65 : decode cX3_append 65 = .ok (.putfield 9, 3) := by decide +kernel
theorem dX3_append_68 : decode cX3_append 68 = .ok (.return_, 1) := by decide +kernel
theorem dX3_copyFrom_0 : decode cX3_copyFrom 0 = .ok (.aload_n 0, 1) := by decide +kernel
theorem dX3_copyFrom_1 : decode cX3_copyFrom 1 = .ok (.aload_n 1, 1) := by decide +kernel
theorem dX3_copyFrom_2 : decode cX3_copyFrom 2 = .ok (.getfield 9, 3) := by decide +kernel
theorem dX3_copyFrom_5 : decode cX3_copyFrom 5 = .ok (.putfield 9, 3) := by decide +kernel
theorem dX3_copyFrom_8 : decode cX3_copyFrom 8 = .ok (.aload_n 1, 1) := by decide +kernel
theorem dX3_copyFrom_9 : decode cX3_copyFrom 9 = .ok (.getfield 15, 3) := by decide +kernel
theorem dX3_copyFrom_12 : decode cX3_copyFrom 12 = .ok (.iconst 0, 1) := by decide +kernel
theorem dX3_copyFrom_13 : decode cX3_copyFrom 13 = .ok (.aload_n 0, 1) := by decide +kernel
theorem dX3_copyFrom_14 : decode cX3_copyFrom 14 = .ok (.getfield 15, 3) := by decide +kernel
theorem dX3_copyFrom_17 : decode cX3_copyFrom 17 = .ok (.iconst 0, 1) := by decide +kernel
theorem dX3_copyFrom_18 : decode cX3_copyFrom 18 = .ok (.aload_n 0, 1) := by decide +kernel
theorem dX3_copyFrom_19 : decode cX3_copyFrom 19 = .ok (.getfield 15, 3) := by decide +kernel
theorem dX3_copyFrom_22 : decode cX3_copyFrom 22 = .ok (.arraylength, 1) := by decide +kernel
theorem dX3_copyFrom_23 : decode cX3_copyFrom 23 = .ok (.invokestatic 19, 3) := by decide +kernel
theorem dX3_copyFrom_26 : decode cX3_copyFrom 26 = .ok (.return_, 1) := by decide +kernel
theorem dX3_init_0 : decode cX3_init 0 = .ok (.aload_n 0, 1) := by decide +kernel
theorem dX3_init_1 : decode cX3_init 1 = .ok (.invokespecial 3, 3) := by decide +kernel
theorem dX3_init_4 : decode cX3_init 4 = .ok (.aload_n 0, 1) := by decide +kernel
theorem dX3_init_5 : decode cX3_init 5 = .ok (.iconst 0, 1) := by decide +kernel
theorem dX3_init_6 : decode cX3_init 6 = .ok (.putfield 9, 3) := by decide +kernel
theorem dX3_init_9 : decode cX3_init 9 = .ok (.aload_n 0, 1) := by decide +kernel
theorem dX3_init_10 : decode cX3_init 10 = .ok (.bipush 48, 2) := by decide +kernel
theorem dX3_init_12 : decode cX3_init 12 = .ok (.newarray .int, 2) := by decide +kernel
theorem dX3_init_14 : decode cX3_init 14 = .ok (.putfield 15, 3) := by decide +kernel
theorem dX3_init_17 : decode cX3_init 17 = .ok (.return_, 1) := by decide +kernel
theorem dX3_part_0 : decode cX3_part 0 = .ok (.iload_n 1, 1) := by decide +kernel
theorem dX3_part_1 : decode cX3_part 1 = .ok (.ifCond .lt 20, 3) := by decide +kernel
theorem dX3_part_4 : decode cX3_part 4 = .ok (.iload_n 1, 1) := by decide +kernel
theorem dX3_part_5 : decode cX3_part 5 = .ok (.aload_n 0, 1) := by decide +kernel
theorem dX3_part_6 : decode cX3_part 6 = .ok (.getfield 9, 3) := by decide +kernel
theorem dX3_part_9 : decode cX3_part 9 = .ok (.if_icmp .ge 12, 3) := by decide +kernel
theorem dX3_part_12 : decode cX3_part 12 = .ok (.iload_n 2, 1) := by decide +kernel
theorem dX3_part_13 : decode cX3_part 13 = .ok (.ifCond .lt 8, 3) := by decide +kernel
theorem dX3_part_16 : decode cX3_part 16 = .ok (.iload_n 2, 1) := by decide +kernel
theorem dX3_part_17 : decode cX3_part 17 = .ok (.iconst 4, 1) := by decide +kernel
theorem dX3_part_18 : decode cX3_part 18 = .ok (.if_icmp .lt 8, 3) := by decide +kernel
theorem dX3_part_21 : decode cX3_part 21 = .ok (.bipush (-100), 2) := by decide +kernel
theorem dX3_part_23 : decode cX3_part 23 = .ok (.goto 13, 3) := by decide +kernel
theorem dX3_part_26 : decode cX3_part 26 = .ok (.aload_n 0, 1) := by decide +kernel
theorem dX3_part_27 : decode cX3_part 27 = .ok (.getfield 15, 3) := by decide +kernel
theorem dX3_part_30 : decode cX3_part 30 = .ok (.iload_n 1, 1) := by decide +kernel
theorem dX3_part_31 : decode cX3_part 31 = .ok (.iconst 4, 1) := by decide +kernel
theorem dX3_part_32 : decode cX3_part 32 = .ok (.imul, 1) := by decide +kernel
theorem dX3_part_33 : decode cX3_part 33 = .ok (.iload_n 2, 1) := by decide +kernel
theorem dX3_part_34 : decode cX3_part 34 = .ok (.iadd, 1) := by decide +kernel
theorem dX3_part_35 : decode cX3_part 35 = .ok (.iaload, 1) := by decide +kernel
theorem dX3_part_36 : decode cX3_part 36 = .ok (.ireturn, 1) := by decide +kernel
theorem dX4_allowed_0 : decode cX4_allowed 0 = .ok (.aload_n 0, 1) := by decide +kernel
theorem dX4_allowed_1 : decode cX4_allowed 1 = .ok (.getfield 29, 3) := by decide +kernel
theorem dX4_allowed_4 : decode cX4_allowed 4 = .ok (.iconst (-1), 1) := by decide +kernel
theorem dX4_allowed_5 : decode cX4_allowed 5 = .ok (.if_icmp .ne 13, 3) := by decide +kernel
theorem dX4_allowed_8 : decode cX4_allowed 8 = .ok (.iload_n 1, 1) := by decide +kernel
theorem dX4_allowed_9 : decode cX4_allowed 9 = .ok (.iload_n 2, 1) := by decide +kernel
theorem dX4_allowed_10 : decode cX4_allowed 10 = .ok (.if_icmp .le 8, 3) := by decide +kernel
theorem dX4_allowed_13 : decode cX4_allowed 13 = .ok (.aload_n 0, 1) := by decide +kernel
theorem dX4_allowed_14 : decode cX4_allowed 14 = .ok (.iload_n 3, 1) := by decide +kernel
theorem dX4_allowed_15 : decode cX4_allowed 15 = .ok (.putfield 29, 3) := by decide +kernel
theorem dX4_allowed_18 : decode cX4_allowed 18 = .ok (.iload_n 1, 1) := by decide +kernel
theorem dX4_allowed_19 : decode cX4_allowed 19 = .ok (.ireturn, 1) := by decide +kernel
theorem dX4_init_0 : decode cX4_init 0 = .ok (.aload_n 0, 1) := by decide +kernel
theorem dX4_init_1 : decode cX4_init 1 = .ok (.invokespecial 3, 3) := by decide +kernel
theorem dX4_init_4 : decode cX4_init 4 = .ok (.aload_n 0, 1) := by decide +kernel
theorem dX4_init_5 : decode cX4_init 5 = .ok (.new 9, 3) := by decide +kernel
theorem dX4_init_8 : decode cX4_init 8 = .ok (.dup, 1) := by decide +kernel
theorem dX4_init_9 : decode cX4_init 9 = .ok (.invokespecial 11, 3) := by decide +kernel
theorem dX4_init_12 : decode cX4_init 12 = .ok (.putfield 12, 3) := by decide +kernel
theorem dX4_init_15 : decode cX4_init 15 = .ok (.aload_n 0, 1) := by decide +kernel
theorem dX4_init_16 : decode cX4_init 16 = .ok (.new 18, 3) := by decide +kernel
theorem dX4_init_19 : decode cX4_init 19 = .ok (.dup, 1) := by decide +kernel
theorem dX4_init_20 : decode cX4_init 20 = .ok (.invokespecial 20, 3) := by decide +kernel
theorem dX4_init_23 : decode cX4_init 23 = .ok (.putfield 21, 3) := by decide +kernel
theorem dX4_init_26 : decode cX4_init 26 = .ok (.aload_n 0, 1) := by decide +kernel
theorem dX4_init_27 : decode cX4_init 27 = .ok (.iconst 0, 1) := by decide +kernel
theorem dX4_init_28 : decode cX4_init 28 = .ok (.putfield 25, 3) := by decide +kernel
theorem dX4_init_31 : decode cX4_init 31 = .ok (.aload_n 0, 1) := by decide +kernel
theorem dX4_init_32 : decode cX4_init 32 = .ok (.iconst (-1), 1) := by decide +kernel
theorem dX4_init_33 : decode cX4_init 33 = .ok (.putfield 29, 3) := by decide +kernel
theorem dX4_init_36 : decode cX4_init 36 = .ok (.return_, 1) := by decide +kernel
theorem dX4_isWord_0 : decode cX4_isWord 0 = .ok (.aload_n 0, 1) := by decide +kernel
theorem dX4_isWord_1 : decode cX4_isWord 1 = .ok (.getfield 25, 3) := by decide +kernel
theorem dX4_isWord_4 : decode cX4_isWord 4 = .ok (.iload_n 2, 1) := by decide +kernel
theorem dX4_isWord_5 : decode cX4_isWord 5 = .ok (.isub, 1) := by decide +kernel
theorem dX4_isWord_6 : decode cX4_isWord 6 = .ok (.aload_n 1, 1) := by decide +kernel
theorem dX4_isWord_7 : decode cX4_isWord 7 = .ok (.invokevirtual 67, 3) := by decide +kernel
theorem dX4_isWord_10 : decode cX4_isWord 10 = .ok (.if_icmp .eq 5, 3) := by decide +kernel
theorem dX4_isWord_13 : decode cX4_isWord 13 = .ok (.iconst 0, 1) := by decide +kernel
theorem dX4_isWord_14 : decode cX4_isWord 14 = .ok (.ireturn, 1) := by decide +kernel
theorem dX4_isWord_15 : decode cX4_isWord 15 = .ok (.iconst 0, 1) := by decide +kernel
theorem dX4_isWord_16 : decode cX4_isWord 16 = .ok (.istore_n 3, 1) := by decide +kernel
theorem dX4_isWord_17 : decode cX4_isWord 17 = .ok (.iload_n 3, 1) := by decide +kernel
theorem dX4_isWord_18 : decode cX4_isWord 18 = .ok (.aload_n 1, 1) := by decide +kernel
theorem dX4_isWord_19 : decode cX4_isWord 19 = .ok (.invokevirtual 67, 3) := by decide +kernel
theorem dX4_isWord_22 : decode cX4_isWord 22 = .ok (.if_icmp .ge 29, 3) := by decide +kernel
theorem dX4_isWord_25 : decode cX4_isWord 25 = .ok (.aload_n 0, 1) := by decide +kernel
theorem dX4_isWord_26 : decode cX4_isWord 26 = .ok (.getfield 12, 3) := by decide +kernel
theorem dX4_isWord_29 : decode cX4_isWord 29 = .ok (.iload_n 2, 1) := by decide +kernel
theorem dX4_isWord_30 : decode cX4_isWord 30 = .ok (.iload_n 3, 1) := by decide +kernel
theorem dX4_isWord_31 : decode cX4_isWord 31 = .ok (.iadd, 1) := by decide +kernel
theorem dX4_isWord_32 : decode cX4_isWord 32 = .ok (.invokevirtual 38, 3) := by decide +kernel
theorem dX4_isWord_35 : decode cX4_isWord 35 = .ok (.aload_n 1, 1) := by decide +kernel
theorem dX4_isWord_36 : decode cX4_isWord 36 = .ok (.iload_n 3, 1) := by decide +kernel
theorem dX4_isWord_37 : decode cX4_isWord 37 = .ok (.invokevirtual 72, 3) := by decide +kernel
theorem dX4_isWord_40 : decode cX4_isWord 40 = .ok (.if_icmp .eq 5, 3) := by decide +kernel
theorem dX4_isWord_43 : decode cX4_isWord 43 = .ok (.iconst 0, 1) := by decide +kernel
theorem dX4_isWord_44 : decode cX4_isWord 44 = .ok (.ireturn, 1) := by decide +kernel
theorem dX4_isWord_45 : decode cX4_isWord 45 = .ok (.iinc 3 1, 3) := by decide +kernel
theorem dX4_isWord_48 : decode cX4_isWord 48 = .ok (.goto (-31), 3) := by decide +kernel
theorem dX4_isWord_51 : decode cX4_isWord 51 = .ok (.iconst 1, 1) := by decide +kernel
theorem dX4_isWord_52 : decode cX4_isWord 52 = .ok (.ireturn, 1) := by decide +kernel
theorem dX4_read_0 : decode cX4_read 0 = .ok (.aload_n 0, 1) := by decide +kernel
theorem dX4_read_1 : decode cX4_read 1 = .ok (.iconst 0, 1) := by decide +kernel
theorem dX4_read_2 : decode cX4_read 2 = .ok (.putfield 25, 3) := by decide +kernel
theorem dX4_read_5 : decode cX4_read 5 = .ok (.aload_n 0, 1) := by decide +kernel
theorem dX4_read_6 : decode cX4_read 6 = .ok (.iconst (-1), 1) := by decide +kernel
theorem dX4_read_7 : decode cX4_read 7 = .ok (.putfield 29, 3) := by decide +kernel
theorem dX4_read_10 : decode cX4_read 10 = .ok (.aload_n 0, 1) := by decide +kernel
theorem dX4_read_11 : decode cX4_read 11 = .ok (.getfield 21, 3) := by decide +kernel
theorem dX4_read_14 : decode cX4_read 14 = .ok (.iconst 0, 1) := by decide +kernel
theorem dX4_read_15 : decode cX4_read 15 = .ok (.putfield 32, 3) := by decide +kernel
theorem dX4_read_18 : decode cX4_read 18 = .ok (.iconst 1, 1) := by decide +kernel
theorem dX4_read_19 : decode cX4_read 19 = .ok (.istore_n 1, 1) := by decide +kernel
theorem dX4_read_20 : decode cX4_read 20 = .ok (.iconst 1, 1) := by decide +kernel
theorem dX4_read_21 : decode cX4_read 21 = .ok (.istore_n 2, 1) := by decide +kernel
theorem dX4_read_22 : decode cX4_read 22 = .ok (.iload_n 2, 1) := by decide +kernel
theorem dX4_read_23 : decode cX4_read 23 = .ok (.bipush 12, 2) := by decide +kernel
theorem dX4_read_25 : decode cX4_read 25 = .ok (.if_icmp .gt 67, 3) := by decide +kernel
theorem dX4_read_28 : decode cX4_read 28 = .ok (.iload_n 1, 1) := by decide +kernel
theorem dX4_read_29 : decode cX4_read 29 = .ok (.ifCond .eq 63, 3) := by decide +kernel
theorem dX4_read_32 : decode cX4_read 32 = .ok (.aload_n 0, 1) := by decide +kernel
theorem dX4_read_33 : decode cX4_read 33 = .ok (.invokevirtual 35, 3) := by decide +kernel
theorem dX4_read_36 : decode cX4_read 36 = .ok (.iload_n 2, 1) := by decide +kernel
theorem dX4_read_37 : decode cX4_read 37 = .ok (.bipush 12, 2) := by decide +kernel
theorem dX4_read_39 : decode cX4_read 39 = .ok (.if_icmp .ge 31, 3) := by decide +kernel
theorem dX4_read_42 : decode cX4_read 42 = .ok (.aload_n 0, 1) := by decide +kernel
theorem dX4_read_43 : decode cX4_read 43 = .ok (.getfield 29, 3) := by decide +kernel
theorem dX4_read_46 : decode cX4_read 46 = .ok (.iconst (-1), 1) := by decide +kernel
theorem dX4_read_47 : decode cX4_read 47 = .ok (.if_icmp .ne 23, 3) := by decide +kernel
theorem dX4_read_50 : decode cX4_read 50 = .ok (.aload_n 0, 1) := by decide +kernel
theorem dX4_read_51 : decode cX4_read 51 = .ok (.getfield 12, 3) := by decide +kernel
theorem dX4_read_54 : decode cX4_read 54 = .ok (.aload_n 0, 1) := by decide +kernel
theorem dX4_read_55 : decode cX4_read 55 = .ok (.getfield 25, 3) := by decide +kernel
theorem dX4_read_58 : decode cX4_read 58 = .ok (.invokevirtual 38, 3) := by decide +kernel
theorem dX4_read_61 : decode cX4_read 61 = .ok (.bipush 59, 2) := by decide +kernel
theorem dX4_read_63 : decode cX4_read 63 = .ok (.if_icmp .ne 7, 3) := by decide +kernel
theorem dX4_read_66 : decode cX4_read 66 = .ok (.iconst 1, 1) := by decide +kernel
theorem dX4_read_67 : decode cX4_read 67 = .ok (.goto 4, 3) := by decide +kernel
theorem dX4_read_70 : decode cX4_read 70 = .ok (.iconst 0, 1) := by decide +kernel
theorem dX4_read_71 : decode cX4_read 71 = .ok (.istore_n 1, 1) := by decide +kernel
theorem dX4_read_72 : decode cX4_read 72 = .ok (.iload_n 1, 1) := by decide +kernel
theorem dX4_read_73 : decode cX4_read 73 = .ok (.ifCond .eq 13, 3) := by decide +kernel
theorem dX4_read_76 : decode cX4_read 76 = .ok (.aload_n 0, 1) := by decide +kernel
theorem dX4_read_77 : decode cX4_read 77 = .ok (.dup, 1) := by decide +kernel
theorem dX4_read_78 : decode cX4_read 78 = .ok (.getfield 25, 3) := by decide +kernel
theorem dX4_read_81 : decode cX4_read 81 = .ok (.iconst 1, 1) := by decide +kernel
theorem dX4_read_82 : decode cX4_read 82 = .ok (.iadd, 1) := by decide +kernel
theorem dX4_read_83 : decode cX4_read 83 = .ok (.putfield 25, 3) := by decide +kernel
theorem dX4_read_86 : decode cX4_read 86 = .ok (.iinc 2 1, 3) := by decide +kernel
theorem dX4_read_89 : decode cX4_read 89 = .ok (.goto (-67), 3) := by decide +kernel
theorem dX4_read_92 : decode cX4_read 92 = .ok (.aload_n 0, 1) := by decide +kernel
theorem dX4_read_93 : decode cX4_read 93 = .ok (.getfield 29, 3) := by decide +kernel
theorem dX4_read_96 : decode cX4_read 96 = .ok (.iconst (-1), 1) := by decide +kernel
theorem dX4_read_97 : decode cX4_read 97 = .ok (.if_icmp .ne 25, 3) := by decide +kernel
theorem dX4_read_100 : decode cX4_read 100 = .ok (.aload_n 0, 1) := by decide +kernel
theorem dX4_read_101 : decode cX4_read 101 = .ok (.getfield 25, 3) := by decide +kernel
theorem dX4_read_104 : decode cX4_read 104 = .ok (.aload_n 0, 1) := by decide +kernel
theorem dX4_read_105 : decode cX4_read 105 = .ok (.getfield 12, 3) := by decide +kernel
theorem dX4_read_108 : decode cX4_read 108 = .ok (.getfield 41, 3) := by decide +kernel
theorem dX4_read_111 : decode cX4_read 111 = .ok (.if_icmp .ge 11, 3) := by decide +kernel
theorem dX4_read_114 : decode cX4_read 114 = .ok (.aload_n 0, 1) := by decide +kernel
theorem dX4_read_115 : decode cX4_read 115 = .ok (.aload_n 0, 1) := by decide +kernel
theorem dX4_read_116 : decode cX4_read 116 = .ok (.getfield 25, 3) := by decide +kernel
theorem dX4_read_119 : decode cX4_read 119 = .ok (.putfield 29, 3) := by decide +kernel
theorem dX4_read_122 : decode cX4_read 122 = .ok (.aload_n 0, 1) := by decide +kernel
theorem dX4_read_123 : decode cX4_read 123 = .ok (.getfield 29, 3) := by decide +kernel
theorem dX4_read_126 : decode cX4_read 126 = .ok (.ireturn, 1) := by decide +kernel
theorem dX4_readBlank_0 : decode cX4_readBlank 0 = .ok (.aload_n 0, 1) := by decide +kernel
theorem dX4_readBlank_1 : decode cX4_readBlank 1 = .ok (.getfield 29, 3) := by decide +kernel
theorem dX4_readBlank_4 : decode cX4_readBlank 4 = .ok (.iconst (-1), 1) := by decide +kernel
theorem dX4_readBlank_5 : decode cX4_readBlank 5 = .ok (.if_icmp .eq 4, 3) := by decide +kernel
theorem dX4_readBlank_8 : decode cX4_readBlank 8 = .ok (.return_, 1) := by decide +kernel
theorem dX4_readBlank_9 : decode cX4_readBlank 9 = .ok (.aload_n 0, 1) := by decide +kernel
theorem dX4_readBlank_10 : decode cX4_readBlank 10 = .ok (.getfield 12, 3) := by decide +kernel
theorem dX4_readBlank_13 : decode cX4_readBlank 13 = .ok (.aload_n 0, 1) := by decide +kernel
theorem dX4_readBlank_14 : decode cX4_readBlank 14 = .ok (.getfield 25, 3) := by decide +kernel
theorem dX4_readBlank_17 : decode cX4_readBlank 17 = .ok (.invokevirtual 38, 3) := by decide +kernel
theorem dX4_readBlank_20 : decode cX4_readBlank 20 = .ok (.bipush 32, 2) := by decide +kernel
theorem dX4_readBlank_22 : decode cX4_readBlank 22 = .ok (.if_icmp .ne 16, 3) := by decide +kernel
theorem dX4_readBlank_25 : decode cX4_readBlank 25 = .ok (.aload_n 0, 1) := by decide +kernel
theorem dX4_readBlank_26 : decode cX4_readBlank 26 = .ok (.dup, 1) := by decide +kernel
theorem dX4_readBlank_27 : decode cX4_readBlank 27 = .ok (.getfield 25, 3) := by decide +kernel
theorem dX4_readBlank_30 : decode cX4_readBlank 30 = .ok (.iconst 1, 1) := by decide +kernel
theorem dX4_readBlank_31 : decode cX4_readBlank 31 = .ok (.iadd, 1) := by decide +kernel
theorem dX4_readBlank_32 : decode cX4_readBlank 32 = .ok (.putfield 25, 3) := by decide +kernel
theorem dX4_readBlank_35 : decode cX4_readBlank 35 = .ok (.goto 11, 3) := by decide +kernel
theorem dX4_readBlank_38 : decode cX4_readBlank 38 = .ok (.aload_n 0, 1) := by decide +kernel
theorem dX4_readBlank_39 : decode cX4_readBlank 39 = .ok (.aload_n 0, 1) := by decide +kernel
theorem dX4_readBlank_40 : decode cX4_readBlank 40 = .ok (.getfield 25, 3) := by decide +kernel
theorem dX4_readBlank_43 : decode cX4_readBlank 43 = .ok (.putfield 29, 3) := by decide +kernel
theorem dX4_readBlank_46 : decode cX4_readBlank 46 = .ok (.return_, 1) := by decide +kernel
theorem dX4_readFigureBelow_0 : decode cX4_readFigureBelow 0 = .ok (.aload_n 0, 1) := by decide +kernel
theorem dX4_readFigureBelow_1 : decode cX4_readFigureBelow 1 = .ok (.invokevirtual 94, 3) := by decide +kernel
theorem dX4_readFigureBelow_4 : decode cX4_readFigureBelow 4 = .ok (.aload_n 0, 1) := by decide +kernel
theorem dX4_readFigureBelow_5 : decode cX4_readFigureBelow 5 = .ok (.iconst 1, 1) := by decide +kernel
theorem dX4_readFigureBelow_6 : decode cX4_readFigureBelow 6 = .ok (.invokevirtual 97, 3) := by decide +kernel
theorem dX4_readFigureBelow_9 : decode cX4_readFigureBelow 9 = .ok (.istore_n 2, 1) := by decide +kernel
theorem dX4_readFigureBelow_10 : decode cX4_readFigureBelow 10 = .ok (.aload_n 0, 1) := by decide +kernel
theorem dX4_readFigureBelow_11 : decode cX4_readFigureBelow 11 = .ok (.iload_n 2, 1) := by decide +kernel
theorem dX4_readFigureBelow_12 : decode cX4_readFigureBelow 12 = .ok (.iload_n 1, 1) := by decide +kernel
theorem dX4_readFigureBelow_13 : decode cX4_readFigureBelow 13 = .ok (.iconst 1, 1) := by decide +kernel
theorem dX4_readFigureBelow_14 : decode cX4_readFigureBelow 14 = .ok (.isub, 1) := by decide +kernel
theorem dX4_readFigureBelow_15 : decode cX4_readFigureBelow 15 = .ok (.aload_n 0, 1) := by decide +kernel
theorem dX4_readFigureBelow_16 : decode cX4_readFigureBelow 16 = .ok (.getfield 25, 3) := by decide +kernel
theorem dX4_readFigureBelow_19 : decode cX4_readFigureBelow 19 = .ok (.iconst 1, 1) := by decide +kernel
theorem dX4_readFigureBelow_20 : decode cX4_readFigureBelow 20 = .ok (.isub, 1) := by decide +kernel
theorem dX4_readFigureBelow_21 : decode cX4_readFigureBelow 21 = .ok (.invokevirtual 100, 3) := by decide +kernel
theorem dX4_readFigureBelow_24 : decode cX4_readFigureBelow 24 = .ok (.ireturn, 1) := by decide +kernel
theorem dX4_readNumber_0 : decode cX4_readNumber 0 = .ok (.aload_n 0, 1) := by decide +kernel
theorem dX4_readNumber_1 : decode cX4_readNumber 1 = .ok (.invokevirtual 94, 3) := by decide +kernel
theorem dX4_readNumber_4 : decode cX4_readNumber 4 = .ok (.aload_n 0, 1) := by decide +kernel
theorem dX4_readNumber_5 : decode cX4_readNumber 5 = .ok (.getfield 29, 3) := by decide +kernel
theorem dX4_readNumber_8 : decode cX4_readNumber 8 = .ok (.iconst (-1), 1) := by decide +kernel
theorem dX4_readNumber_9 : decode cX4_readNumber 9 = .ok (.if_icmp .ne 23, 3) := by decide +kernel
theorem dX4_readNumber_12 : decode cX4_readNumber 12 = .ok (.aload_n 0, 1) := by decide +kernel
theorem dX4_readNumber_13 : decode cX4_readNumber 13 = .ok (.getfield 12, 3) := by decide +kernel
theorem dX4_readNumber_16 : decode cX4_readNumber 16 = .ok (.aload_n 0, 1) := by decide +kernel
theorem dX4_readNumber_17 : decode cX4_readNumber 17 = .ok (.getfield 25, 3) := by decide +kernel
theorem dX4_readNumber_20 : decode cX4_readNumber 20 = .ok (.invokevirtual 38, 3) := by decide +kernel
theorem dX4_readNumber_23 : decode cX4_readNumber 23 = .ok (.bipush 45, 2) := by decide +kernel
theorem dX4_readNumber_25 : decode cX4_readNumber 25 = .ok (.if_icmp .ne 7, 3) := by decide +kernel
theorem dX4_readNumber_28 : decode cX4_readNumber 28 = .ok (.iconst 1, 1) := by decide +kernel
theorem dX4_readNumber_29 : decode cX4_readNumber 29 = .ok (.goto 4, 3) := by decide +kernel
theorem dX4_readNumber_32 : decode cX4_readNumber 32 = .ok (.iconst 0, 1) := by decide +kernel
theorem dX4_readNumber_33 : decode cX4_readNumber 33 = .ok (.istore_n 1, 1) := by decide +kernel
theorem dX4_readNumber_34 : decode cX4_readNumber 34 = .ok (.iload_n 1, 1) := by decide +kernel
theorem dX4_readNumber_35 : decode cX4_readNumber 35 = .ok (.ifCond .eq 13, 3) := by decide +kernel
theorem dX4_readNumber_38 : decode cX4_readNumber 38 = .ok (.aload_n 0, 1) := by decide +kernel
theorem dX4_readNumber_39 : decode cX4_readNumber 39 = .ok (.dup, 1) := by decide +kernel
theorem dX4_readNumber_40 : decode cX4_readNumber 40 = .ok (.getfield 25, 3) := by decide +kernel
theorem dX4_readNumber_43 : decode cX4_readNumber 43 = .ok (.iconst 1, 1) := by decide +kernel
theorem dX4_readNumber_44 : decode cX4_readNumber 44 = .ok (.iadd, 1) := by decide +kernel
theorem dX4_readNumber_45 : decode cX4_readNumber 45 = .ok (.putfield 25, 3) := by decide +kernel
theorem dX4_readNumber_48 : decode cX4_readNumber 48 = .ok (.aload_n 0, 1) := by decide +kernel
theorem dX4_readNumber_49 : decode cX4_readNumber 49 = .ok (.iconst 2, 1) := by decide +kernel
theorem dX4_readNumber_50 : decode cX4_readNumber 50 = .ok (.invokevirtual 97, 3) := by decide +kernel
theorem dX4_readNumber_53 : decode cX4_readNumber 53 = .ok (.istore_n 2, 1) := by decide +kernel
theorem dX4_readNumber_54 : decode cX4_readNumber 54 = .ok (.iload_n 1, 1) := by decide +kernel
theorem dX4_readNumber_55 : decode cX4_readNumber 55 = .ok (.ifCond .eq 8, 3) := by decide +kernel
theorem dX4_readNumber_58 : decode cX4_readNumber 58 = .ok (.iload_n 2, 1) := by decide +kernel
theorem dX4_readNumber_59 : decode cX4_readNumber 59 = .ok (.ineg, 1) := by decide +kernel
theorem dX4_readNumber_60 : decode cX4_readNumber 60 = .ok (.goto 4, 3) := by decide +kernel
theorem dX4_readNumber_63 : decode cX4_readNumber 63 = .ok (.iload_n 2, 1) := by decide +kernel
theorem dX4_readNumber_64 : decode cX4_readNumber 64 = .ok (.ireturn, 1) := by decide +kernel
end
section
theorem dX4_readStatement_0 : decode cX4_readStatement 0 = .ok (.aload_n 0, 1) := by decide +kernel
theorem dX4_readStatement_1 : decode cX4_readStatement 1 = .ok (.invokevirtual 42, 3) := by decide +kernel
theorem dX4_readStatement_4 : decode cX4_readStatement 4 = .ok (.istore_n 1, 1) := by decide +kernel
theorem dX4_readStatement_5 : decode cX4_readStatement 5 = .ok (.iload_n 1, 1) := by decide +kernel
theorem dX4_readStatement_6 : decode cX4_readStatement 6 = .ok (.bipush 8, 2) := by decide +kernel
theorem dX4_readStatement_8 : decode cX4_readStatement 8 = .ok (.if_icmp .ne 10, 3) := by decide +kernel
theorem dX4_readStatement_11 : decode cX4_readStatement 11 = .ok (.aload_n 0, 1) := by decide +kernel
theorem dX4_readStatement_12 : decode cX4_readStatement 12 = .ok (.invokevirtual 46, 3) := by decide +kernel
theorem dX4_readStatement_15 : decode cX4_readStatement 15 = .ok (.goto 17, 3) := by decide +kernel
theorem dX4_readStatement_18 : decode cX4_readStatement 18 = .ok (.aload_n 0, 1) := by decide +kernel
theorem dX4_readStatement_19 : decode cX4_readStatement 19 = .ok (.iload_n 1, 1) := by decide +kernel
theorem dX4_readStatement_20 : decode cX4_readStatement 20 = .ok (.iconst 4, 1) := by decide +kernel
theorem dX4_readStatement_21 : decode cX4_readStatement 21 = .ok (.if_icmp .gt 7, 3) := by decide +kernel
theorem dX4_readStatement_24 : decode cX4_readStatement 24 = .ok (.iconst 3, 1) := by decide +kernel
theorem dX4_readStatement_25 : decode cX4_readStatement 25 = .ok (.goto 4, 3) := by decide +kernel
theorem dX4_readStatement_28 : decode cX4_readStatement 28 = .ok (.iconst 4, 1) := by decide +kernel
theorem dX4_readStatement_29 : decode cX4_readStatement 29 = .ok (.invokevirtual 49, 3) := by decide +kernel
theorem dX4_readStatement_32 : decode cX4_readStatement 32 = .ok (.istore_n 2, 1) := by decide +kernel
theorem dX4_readStatement_33 : decode cX4_readStatement 33 = .ok (.iload_n 1, 1) := by decide +kernel
theorem dX4_readStatement_34 : decode cX4_readStatement 34 = .ok (.iconst 5, 1) := by decide +kernel
theorem dX4_readStatement_35 : decode cX4_readStatement 35 = .ok (.if_icmp .eq 15, 3) := by decide +kernel
theorem dX4_readStatement_38 : decode cX4_readStatement 38 = .ok (.iload_n 1, 1) := by decide +kernel
theorem dX4_readStatement_39 : decode cX4_readStatement 39 = .ok (.bipush 6, 2) := by decide +kernel
theorem dX4_readStatement_41 : decode cX4_readStatement 41 = .ok (.if_icmp .eq 9, 3) := by decide +kernel
theorem dX4_readStatement_44 : decode cX4_readStatement 44 = .ok (.iload_n 1, 1) := by decide +kernel
theorem dX4_readStatement_45 : decode cX4_readStatement 45 = .ok (.bipush 7, 2) := by decide +kernel
theorem dX4_readStatement_47 : decode cX4_readStatement 47 = .ok (.if_icmp .ne 10, 3) := by decide +kernel
theorem dX4_readStatement_50 : decode cX4_readStatement 50 = .ok (.aload_n 0, 1) := by decide +kernel
theorem dX4_readStatement_51 : decode cX4_readStatement 51 = .ok (.invokevirtual 52, 3) := by decide +kernel
theorem dX4_readStatement_54 : decode cX4_readStatement 54 = .ok (.goto 4, 3) := by decide +kernel
theorem dX4_readStatement_57 : decode cX4_readStatement 57 = .ok (.iconst 0, 1) := by decide +kernel
theorem dX4_readStatement_58 : decode cX4_readStatement 58 = .ok (.istore_n 3, 1) := by decide +kernel
theorem dX4_readStatement_59 : decode cX4_readStatement 59 = .ok (.iload_n 1, 1) := by decide +kernel
theorem dX4_readStatement_60 : decode cX4_readStatement 60 = .ok (.bipush 7, 2) := by decide +kernel
theorem dX4_readStatement_62 : decode cX4_readStatement 62 = .ok (.if_icmp .ne 10, 3) := by decide +kernel
theorem dX4_readStatement_65 : decode cX4_readStatement 65 = .ok (.aload_n 0, 1) := by decide +kernel
theorem dX4_readStatement_66 : decode cX4_readStatement 66 = .ok (.invokevirtual 46, 3) := by decide +kernel
theorem dX4_readStatement_69 : decode cX4_readStatement 69 = .ok (.goto 4, 3) := by decide +kernel
theorem dX4_readStatement_72 : decode cX4_readStatement 72 = .ok (.iconst 0, 1) := by decide +kernel
theorem dX4_readStatement_73 : decode cX4_readStatement 73 = .ok (.istore 4, 2) := by decide +kernel
theorem dX4_readStatement_75 : decode cX4_readStatement 75 = .ok (.aload_n 0, 1) := by decide +kernel
theorem dX4_readStatement_76 : decode cX4_readStatement 76 = .ok (.getfield 29, 3) := by decide +kernel
theorem dX4_readStatement_79 : decode cX4_readStatement 79 = .ok (.iconst (-1), 1) := by decide +kernel
theorem dX4_readStatement_80 : decode cX4_readStatement 80 = .ok (.if_icmp .ne 15, 3) := by decide +kernel
theorem dX4_readStatement_83 : decode cX4_readStatement 83 = .ok (.aload_n 0, 1) := by decide +kernel
theorem dX4_readStatement_84 : decode cX4_readStatement 84 = .ok (.getfield 21, 3) := by decide +kernel
theorem dX4_readStatement_87 : decode cX4_readStatement 87 = .ok (.iload_n 1, 1) := by decide +kernel
theorem dX4_readStatement_88 : decode cX4_readStatement 88 = .ok (.iload_n 2, 1) := by decide +kernel
theorem dX4_readStatement_89 : decode cX4_readStatement 89 = .ok (.iload_n 3, 1) := by decide +kernel
theorem dX4_readStatement_90 : decode cX4_readStatement 90 = .ok (.iload 4, 2) := by decide +kernel
theorem dX4_readStatement_92 : decode cX4_readStatement 92 = .ok (.invokevirtual 55, 3) := by decide +kernel
theorem dX4_readStatement_95 : decode cX4_readStatement 95 = .ok (.return_, 1) := by decide +kernel
theorem dX4_readTarget_0 : decode cX4_readTarget 0 = .ok (.aload_n 0, 1) := by decide +kernel
theorem dX4_readTarget_1 : decode cX4_readTarget 1 = .ok (.invokevirtual 94, 3) := by decide +kernel
theorem dX4_readTarget_4 : decode cX4_readTarget 4 = .ok (.aload_n 0, 1) := by decide +kernel
theorem dX4_readTarget_5 : decode cX4_readTarget 5 = .ok (.getfield 25, 3) := by decide +kernel
theorem dX4_readTarget_8 : decode cX4_readTarget 8 = .ok (.istore_n 1, 1) := by decide +kernel
theorem dX4_readTarget_9 : decode cX4_readTarget 9 = .ok (.aload_n 0, 1) := by decide +kernel
theorem dX4_readTarget_10 : decode cX4_readTarget 10 = .ok (.iconst 2, 1) := by decide +kernel
theorem dX4_readTarget_11 : decode cX4_readTarget 11 = .ok (.invokevirtual 97, 3) := by decide +kernel
theorem dX4_readTarget_14 : decode cX4_readTarget 14 = .ok (.istore_n 2, 1) := by decide +kernel
theorem dX4_readTarget_15 : decode cX4_readTarget 15 = .ok (.aload_n 0, 1) := by decide +kernel
theorem dX4_readTarget_16 : decode cX4_readTarget 16 = .ok (.iload_n 2, 1) := by decide +kernel
theorem dX4_readTarget_17 : decode cX4_readTarget 17 = .ok (.bipush 12, 2) := by decide +kernel
theorem dX4_readTarget_19 : decode cX4_readTarget 19 = .ok (.iload_n 1, 1) := by decide +kernel
theorem dX4_readTarget_20 : decode cX4_readTarget 20 = .ok (.invokevirtual 100, 3) := by decide +kernel
theorem dX4_readTarget_23 : decode cX4_readTarget 23 = .ok (.ireturn, 1) := by decide +kernel
theorem dX4_readWord_0 : decode cX4_readWord 0 = .ok (.aload_n 0, 1) := by decide +kernel
theorem dX4_readWord_1 : decode cX4_readWord 1 = .ok (.getfield 25, 3) := by decide +kernel
theorem dX4_readWord_4 : decode cX4_readWord 4 = .ok (.istore_n 1, 1) := by decide +kernel
theorem dX4_readWord_5 : decode cX4_readWord 5 = .ok (.iconst 0, 1) := by decide +kernel
theorem dX4_readWord_6 : decode cX4_readWord 6 = .ok (.istore_n 2, 1) := by decide +kernel
theorem dX4_readWord_7 : decode cX4_readWord 7 = .ok (.iload_n 2, 1) := by decide +kernel
theorem dX4_readWord_8 : decode cX4_readWord 8 = .ok (.bipush 120, 2) := by decide +kernel
theorem dX4_readWord_10 : decode cX4_readWord 10 = .ok (.if_icmp .ge 51, 3) := by decide +kernel
theorem dX4_readWord_13 : decode cX4_readWord 13 = .ok (.aload_n 0, 1) := by decide +kernel
theorem dX4_readWord_14 : decode cX4_readWord 14 = .ok (.getfield 12, 3) := by decide +kernel
theorem dX4_readWord_17 : decode cX4_readWord 17 = .ok (.aload_n 0, 1) := by decide +kernel
theorem dX4_readWord_18 : decode cX4_readWord 18 = .ok (.getfield 25, 3) := by decide +kernel
theorem dX4_readWord_21 : decode cX4_readWord 21 = .ok (.invokevirtual 38, 3) := by decide +kernel
theorem dX4_readWord_24 : decode cX4_readWord 24 = .ok (.bipush 97, 2) := by decide +kernel
theorem dX4_readWord_26 : decode cX4_readWord 26 = .ok (.if_icmp .lt 35, 3) := by decide +kernel
theorem dX4_readWord_29 : decode cX4_readWord 29 = .ok (.aload_n 0, 1) := by decide +kernel
theorem dX4_readWord_30 : decode cX4_readWord 30 = .ok (.getfield 12, 3) := by decide +kernel
theorem dX4_readWord_33 : decode cX4_readWord 33 = .ok (.aload_n 0, 1) := by decide +kernel
theorem dX4_readWord_34 : decode cX4_readWord 34 = .ok (.getfield 25, 3) := by decide +kernel
theorem dX4_readWord_37 : decode cX4_readWord 37 = .ok (.invokevirtual 38, 3) := by decide +kernel
theorem dX4_readWord_40 : decode cX4_readWord 40 = .ok (.bipush 122, 2) := by decide +kernel
theorem dX4_readWord_42 : decode cX4_readWord 42 = .ok (.if_icmp .gt 19, 3) := by decide +kernel
theorem dX4_readWord_45 : decode cX4_readWord 45 = .ok (.aload_n 0, 1) := by decide +kernel
theorem dX4_readWord_46 : decode cX4_readWord 46 = .ok (.dup, 1) := by decide +kernel
theorem dX4_readWord_47 : decode cX4_readWord 47 = .ok (.getfield 25, 3) := by decide +kernel
theorem dX4_readWord_50 : decode cX4_readWord 50 = .ok (.iconst 1, 1) := by decide +kernel
theorem dX4_readWord_51 : decode cX4_readWord 51 = .ok (.iadd, 1) := by decide +kernel
theorem dX4_readWord_52 : decode cX4_readWord 52 = .ok (.putfield 25, 3) := by decide +kernel
theorem dX4_readWord_55 : decode cX4_readWord 55 = .ok (.iinc 2 1, 3) := by decide +kernel
theorem dX4_readWord_58 : decode cX4_readWord 58 = .ok (.goto (-51), 3) := by decide +kernel
theorem dX4_readWord_61 : decode cX4_readWord 61 = .ok (.iconst 0, 1) := by decide +kernel
theorem dX4_readWord_62 : decode cX4_readWord 62 = .ok (.istore_n 2, 1) := by decide +kernel
theorem dX4_readWord_63 : decode cX4_readWord 63 = .ok (.iload_n 2, 1) := by decide +kernel
theorem dX4_readWord_64 : decode cX4_readWord 64 = .ok (.bipush 9, 2) := by decide +kernel
theorem dX4_readWord_66 : decode cX4_readWord 66 = .ok (.if_icmp .ge 23, 3) := by decide +kernel
theorem dX4_readWord_69 : decode cX4_readWord 69 = .ok (.aload_n 0, 1) := by decide +kernel
theorem dX4_readWord_70 : decode cX4_readWord 70 = .ok (.iload_n 2, 1) := by decide +kernel
theorem dX4_readWord_71 : decode cX4_readWord 71 = .ok (.invokestatic 59, 3) := by decide +kernel
theorem dX4_readWord_74 : decode cX4_readWord 74 = .ok (.iload_n 1, 1) := by decide +kernel
theorem dX4_readWord_75 : decode cX4_readWord 75 = .ok (.invokevirtual 63, 3) := by decide +kernel
theorem dX4_readWord_78 : decode cX4_readWord 78 = .ok (.ifCond .eq 5, 3) := by decide +kernel
theorem dX4_readWord_81 : decode cX4_readWord 81 = .ok (.iload_n 2, 1) := by decide +kernel
theorem dX4_readWord_82 : decode cX4_readWord 82 = .ok (.ireturn, 1) := by decide +kernel
theorem dX4_readWord_83 : decode cX4_readWord 83 = .ok (.iinc 2 1, 3) := by decide +kernel
theorem dX4_readWord_86 : decode cX4_readWord 86 = .ok (.goto (-23), 3) := by decide +kernel
theorem dX4_readWord_89 : decode cX4_readWord 89 = .ok (.aload_n 0, 1) := by decide +kernel
theorem dX4_readWord_90 : decode cX4_readWord 90 = .ok (.iload_n 1, 1) := by decide +kernel
theorem dX4_readWord_91 : decode cX4_readWord 91 = .ok (.putfield 29, 3) := by decide +kernel
theorem dX4_readWord_94 : decode cX4_readWord 94 = .ok (.iconst (-1), 1) := by decide +kernel
theorem dX4_readWord_95 : decode cX4_readWord 95 = .ok (.ireturn, 1) := by decide +kernel
theorem dX4_takeFigures_0 : decode cX4_takeFigures 0 = .ok (.aload_n 0, 1) := by decide +kernel
theorem dX4_takeFigures_1 : decode cX4_takeFigures 1 = .ok (.getfield 25, 3) := by decide +kernel
theorem dX4_takeFigures_4 : decode cX4_takeFigures 4 = .ok (.istore_n 2, 1) := by decide +kernel
theorem dX4_takeFigures_5 : decode cX4_takeFigures 5 = .ok (.iconst 0, 1) := by decide +kernel
theorem dX4_takeFigures_6 : decode cX4_takeFigures 6 = .ok (.istore_n 3, 1) := by decide +kernel
theorem dX4_takeFigures_7 : decode cX4_takeFigures 7 = .ok (.iconst 0, 1) := by decide +kernel
theorem dX4_takeFigures_8 : decode cX4_takeFigures 8 = .ok (.istore 4, 2) := by decide +kernel
theorem dX4_takeFigures_10 : decode cX4_takeFigures 10 = .ok (.iload 4, 2) := by decide +kernel
theorem dX4_takeFigures_12 : decode cX4_takeFigures 12 = .ok (.iload_n 1, 1) := by decide +kernel
theorem dX4_takeFigures_13 : decode cX4_takeFigures 13 = .ok (.if_icmp .ge 79, 3) := by decide +kernel
theorem dX4_takeFigures_16 : decode cX4_takeFigures 16 = .ok (.aload_n 0, 1) := by decide +kernel
theorem dX4_takeFigures_17 : decode cX4_takeFigures 17 = .ok (.getfield 29, 3) := by decide +kernel
theorem dX4_takeFigures_20 : decode cX4_takeFigures 20 = .ok (.iconst (-1), 1) := by decide +kernel
theorem dX4_takeFigures_21 : decode cX4_takeFigures 21 = .ok (.if_icmp .ne 71, 3) := by decide +kernel
theorem dX4_takeFigures_24 : decode cX4_takeFigures 24 = .ok (.aload_n 0, 1) := by decide +kernel
theorem dX4_takeFigures_25 : decode cX4_takeFigures 25 = .ok (.getfield 12, 3) := by decide +kernel
theorem dX4_takeFigures_28 : decode cX4_takeFigures 28 = .ok (.aload_n 0, 1) := by decide +kernel
theorem dX4_takeFigures_29 : decode cX4_takeFigures 29 = .ok (.getfield 25, 3) := by decide +kernel
theorem dX4_takeFigures_32 : decode cX4_takeFigures 32 = .ok (.invokevirtual 38, 3) := by decide +kernel
theorem dX4_takeFigures_35 : decode cX4_takeFigures 35 = .ok (.bipush 48, 2) := by decide +kernel
theorem dX4_takeFigures_37 : decode cX4_takeFigures 37 = .ok (.if_icmp .lt 55, 3) := by decide +kernel
theorem dX4_takeFigures_40 : decode cX4_takeFigures 40 = .ok (.aload_n 0, 1) := by decide +kernel
theorem dX4_takeFigures_41 : decode cX4_takeFigures 41 = .ok (.getfield 12, 3) := by decide +kernel
theorem dX4_takeFigures_44 : decode cX4_takeFigures 44 = .ok (.aload_n 0, 1) := by decide +kernel
theorem dX4_takeFigures_45 : decode cX4_takeFigures 45 = .ok (.getfield 25, 3) := by decide +kernel
theorem dX4_takeFigures_48 : decode cX4_takeFigures 48 = .ok (.invokevirtual 38, 3) := by decide +kernel
theorem dX4_takeFigures_51 : decode cX4_takeFigures 51 = .ok (.bipush 57, 2) := by decide +kernel
theorem dX4_takeFigures_53 : decode cX4_takeFigures 53 = .ok (.if_icmp .gt 39, 3) := by decide +kernel
theorem dX4_takeFigures_56 : decode cX4_takeFigures 56 = .ok (.iload_n 3, 1) := by decide +kernel
theorem dX4_takeFigures_57 : decode cX4_takeFigures 57 = .ok (.bipush 10, 2) := by decide +kernel
theorem dX4_takeFigures_59 : decode cX4_takeFigures 59 = .ok (.imul, 1) := by decide +kernel
theorem dX4_takeFigures_60 : decode cX4_takeFigures 60 = .ok (.aload_n 0, 1) := by decide +kernel
theorem dX4_takeFigures_61 : decode cX4_takeFigures 61 = .ok (.getfield 12, 3) := by decide +kernel
theorem dX4_takeFigures_64 : decode cX4_takeFigures 64 = .ok (.aload_n 0, 1) := by decide +kernel
theorem dX4_takeFigures_65 : decode cX4_takeFigures 65 = .ok (.getfield 25, 3) := by decide +kernel
theorem dX4_takeFigures_68 : decode cX4_takeFigures 68 = .ok (.invokevirtual 38, 3) := by decide +kernel
theorem dX4_takeFigures_71 : decode cX4_takeFigures 71 = .ok (.iadd, 1) := by decide +kernel
theorem dX4_takeFigures_72 : decode cX4_takeFigures 72 = .ok (.bipush 48, 2) := by decide +kernel
theorem dX4_takeFigures_74 : decode cX4_takeFigures 74 = .ok (.isub, 1) := by decide +kernel
theorem dX4_takeFigures_75 : decode cX4_takeFigures 75 = .ok (.istore_n 3, 1) := by decide +kernel
theorem dX4_takeFigures_76 : decode cX4_takeFigures 76 = .ok (.aload_n 0, 1) := by decide +kernel
theorem dX4_takeFigures_77 : decode cX4_takeFigures 77 = .ok (.dup, 1) := by decide +kernel
theorem dX4_takeFigures_78 : decode cX4_takeFigures 78 = .ok (.getfield 25, 3) := by decide +kernel
theorem dX4_takeFigures_81 : decode cX4_takeFigures 81 = .ok (.iconst 1, 1) := by decide +kernel
theorem dX4_takeFigures_82 : decode cX4_takeFigures 82 = .ok (.iadd, 1) := by decide +kernel
theorem dX4_takeFigures_83 : decode cX4_takeFigures 83 = .ok (.putfield 25, 3) := by decide +kernel
theorem dX4_takeFigures_86 : decode cX4_takeFigures 86 = .ok (.iinc 4 1, 3) := by decide +kernel
theorem dX4_takeFigures_89 : decode cX4_takeFigures 89 = .ok (.goto (-79), 3) := by decide +kernel
theorem dX4_takeFigures_92 : decode cX4_takeFigures 92 = .ok (.aload_n 0, 1) := by decide +kernel
theorem dX4_takeFigures_93 : decode cX4_takeFigures 93 = .ok (.getfield 25, 3) := by decide +kernel
theorem dX4_takeFigures_96 : decode cX4_takeFigures 96 = .ok (.iload_n 2, 1) := by decide +kernel
theorem dX4_takeFigures_97 : decode cX4_takeFigures 97 = .ok (.if_icmp .ne 19, 3) := by decide +kernel
theorem dX4_takeFigures_100 : decode cX4_takeFigures 100 = .ok (.aload_n 0, 1) := by decide +kernel
theorem dX4_takeFigures_101 : decode cX4_takeFigures 101 = .ok (.getfield 29, 3) := by decide +kernel
theorem dX4_takeFigures_104 : decode cX4_takeFigures 104 = .ok (.iconst (-1), 1) := by decide +kernel
theorem dX4_takeFigures_105 : decode cX4_takeFigures 105 = .ok (.if_icmp .ne 11, 3) := by decide +kernel
theorem dX4_takeFigures_108 : decode cX4_takeFigures 108 = .ok (.aload_n 0, 1) := by decide +kernel
theorem dX4_takeFigures_109 : decode cX4_takeFigures 109 = .ok (.aload_n 0, 1) := by decide +kernel
theorem dX4_takeFigures_110 : decode cX4_takeFigures 110 = .ok (.getfield 25, 3) := by decide +kernel
theorem dX4_takeFigures_113 : decode cX4_takeFigures 113 = .ok (.putfield 29, 3) := by decide +kernel
theorem dX4_takeFigures_116 : decode cX4_takeFigures 116 = .ok (.iload_n 3, 1) := by decide +kernel
theorem dX4_takeFigures_117 : decode cX4_takeFigures 117 = .ok (.ireturn, 1) := by decide +kernel
theorem dX4_wordOf_0 : decode cX4_wordOf 0 = .ok (.iload_n 0, 1) := by decide +kernel
theorem dX4_wordOf_1 : decode cX4_wordOf 1 = .ok (.tableswitch 71 0 7 #[47, 50, 53, 56, 59, 62, 65, 68], 47) := by decide +kernel
theorem dX4_wordOf_48 : decode cX4_wordOf 48 = .ok (.ldc 76, 2) := by decide +kernel
theorem dX4_wordOf_50 : decode cX4_wordOf 50 = .ok (.areturn, 1) := by decide +kernel
theorem dX4_wordOf_51 : decode cX4_wordOf 51 = .ok (.ldc 78, 2) := by decide +kernel
theorem dX4_wordOf_53 : decode cX4_wordOf 53 = .ok (.areturn, 1) := by decide +kernel
theorem dX4_wordOf_54 : decode cX4_wordOf 54 = .ok (.ldc 80, 2) := by decide +kernel
theorem dX4_wordOf_56 : decode cX4_wordOf 56 = .ok (.areturn, 1) := by decide +kernel
theorem dX4_wordOf_57 : decode cX4_wordOf 57 = .ok (.ldc 82, 2) := by decide +kernel
theorem dX4_wordOf_59 : decode cX4_wordOf 59 = .ok (.areturn, 1) := by decide +kernel
theorem dX4_wordOf_60 : decode cX4_wordOf 60 = .ok (.ldc 84, 2) := by decide +kernel
theorem dX4_wordOf_62 : decode cX4_wordOf 62 = .ok (.areturn, 1) := by decide +kernel
theorem dX4_wordOf_63 : decode cX4_wordOf 63 = .ok (.ldc 86, 2) := by decide +kernel
theorem dX4_wordOf_65 : decode cX4_wordOf 65 = .ok (.areturn, 1) := by decide +kernel
theorem dX4_wordOf_66 : decode cX4_wordOf 66 = .ok (.ldc 88, 2) := by decide +kernel
theorem dX4_wordOf_68 : decode cX4_wordOf 68 = .ok (.areturn, 1) := by decide +kernel
theorem dX4_wordOf_69 : decode cX4_wordOf 69 = .ok (.ldc 90, 2) := by decide +kernel
theorem dX4_wordOf_71 : decode cX4_wordOf 71 = .ok (.areturn, 1) := by decide +kernel
theorem dX4_wordOf_72 : decode cX4_wordOf 72 = .ok (.ldc 92, 2) := by decide +kernel
theorem dX4_wordOf_74 : decode cX4_wordOf 74 = .ok (.areturn, 1) := by decide +kernel
theorem dX5_at_0 : decode cX5_at 0 = .ok (.iload_n 1, 1) := by decide +kernel
theorem dX5_at_1 : decode cX5_at 1 = .ok (.ifCond .lt 8, 3) := by decide +kernel
theorem dX5_at_4 : decode cX5_at 4 = .ok (.iload_n 1, 1) := by decide +kernel
theorem dX5_at_5 : decode cX5_at 5 = .ok (.iconst 4, 1) := by decide +kernel
theorem dX5_at_6 : decode cX5_at 6 = .ok (.if_icmp .lt 7, 3) := by decide +kernel
theorem dX5_at_9 : decode cX5_at 9 = .ok (.iconst (-1), 1) := by decide +kernel
theorem dX5_at_10 : decode cX5_at 10 = .ok (.goto 13, 3) := by decide +kernel
theorem dX5_at_13 : decode cX5_at 13 = .ok (.iload_n 0, 1) := by decide +kernel
theorem dX5_at_14 : decode cX5_at 14 = .ok (.iconst 3, 1) := by decide +kernel
theorem dX5_at_15 : decode cX5_at 15 = .ok (.iload_n 1, 1) := by decide +kernel
theorem dX5_at_16 : decode cX5_at 16 = .ok (.imul, 1) := by decide +kernel
theorem dX5_at_17 : decode cX5_at 17 = .ok (.iushr, 1) := by decide +kernel
theorem dX5_at_18 : decode cX5_at 18 = .ok (.bipush 7, 2) := by decide +kernel
theorem dX5_at_20 : decode cX5_at 20 = .ok (.iand, 1) := by decide +kernel
theorem dX5_at_21 : decode cX5_at 21 = .ok (.iconst 1, 1) := by decide +kernel
theorem dX5_at_22 : decode cX5_at 22 = .ok (.isub, 1) := by decide +kernel
theorem dX5_at_23 : decode cX5_at 23 = .ok (.ireturn, 1) := by decide +kernel
theorem dX5_has_0 : decode cX5_has 0 = .ok (.iconst 0, 1) := by decide +kernel
theorem dX5_has_1 : decode cX5_has 1 = .ok (.istore_n 2, 1) := by decide +kernel
theorem dX5_has_2 : decode cX5_has 2 = .ok (.iload_n 2, 1) := by decide +kernel
theorem dX5_has_3 : decode cX5_has 3 = .ok (.iconst 4, 1) := by decide +kernel
theorem dX5_has_4 : decode cX5_has 4 = .ok (.if_icmp .ge 25, 3) := by decide +kernel
theorem dX5_has_7 : decode cX5_has 7 = .ok (.iload_n 0, 1) := by decide +kernel
theorem dX5_has_8 : decode cX5_has 8 = .ok (.iconst 3, 1) := by decide +kernel
theorem dX5_has_9 : decode cX5_has 9 = .ok (.iload_n 2, 1) := by decide +kernel
theorem dX5_has_10 : decode cX5_has 10 = .ok (.imul, 1) := by decide +kernel
theorem dX5_has_11 : decode cX5_has 11 = .ok (.iushr, 1) := by decide +kernel
theorem dX5_has_12 : decode cX5_has 12 = .ok (.bipush 7, 2) := by decide +kernel
theorem dX5_has_14 : decode cX5_has 14 = .ok (.iand, 1) := by decide +kernel
theorem dX5_has_15 : decode cX5_has 15 = .ok (.iload_n 1, 1) := by decide +kernel
theorem dX5_has_16 : decode cX5_has 16 = .ok (.iconst 1, 1) := by decide +kernel
theorem dX5_has_17 : decode cX5_has 17 = .ok (.iadd, 1) := by decide +kernel
theorem dX5_has_18 : decode cX5_has 18 = .ok (.if_icmp .ne 5, 3) := by decide +kernel
theorem dX5_has_21 : decode cX5_has 21 = .ok (.iconst 1, 1) := by decide +kernel
theorem dX5_has_22 : decode cX5_has 22 = .ok (.ireturn, 1) := by decide +kernel
theorem dX5_has_23 : decode cX5_has 23 = .ok (.iinc 2 1, 3) := by decide +kernel
theorem dX5_has_26 : decode cX5_has 26 = .ok (.goto (-24), 3) := by decide +kernel
theorem dX5_has_29 : decode cX5_has 29 = .ok (.iconst 0, 1) := by decide +kernel
theorem dX5_has_30 : decode cX5_has 30 = .ok (.ireturn, 1) := by decide +kernel
theorem dX5_length_0 : decode cX5_length 0 = .ok (.iconst 0, 1) := by decide +kernel
theorem dX5_length_1 : decode cX5_length 1 = .ok (.istore_n 1, 1) := by decide +kernel
theorem dX5_length_2 : decode cX5_length 2 = .ok (.iconst 0, 1) := by decide +kernel
theorem dX5_length_3 : decode cX5_length 3 = .ok (.istore_n 2, 1) := by decide +kernel
theorem dX5_length_4 : decode cX5_length 4 = .ok (.iload_n 2, 1) := by decide +kernel
theorem dX5_length_5 : decode cX5_length 5 = .ok (.iconst 4, 1) := by decide +kernel
theorem dX5_length_6 : decode cX5_length 6 = .ok (.if_icmp .ge 23, 3) := by decide +kernel
theorem dX5_length_9 : decode cX5_length 9 = .ok (.iload_n 0, 1) := by decide +kernel
theorem dX5_length_10 : decode cX5_length 10 = .ok (.iconst 3, 1) := by decide +kernel
theorem dX5_length_11 : decode cX5_length 11 = .ok (.iload_n 2, 1) := by decide +kernel
theorem dX5_length_12 : decode cX5_length 12 = .ok (.imul, 1) := by decide +kernel
theorem dX5_length_13 : decode cX5_length 13 = .ok (.iushr, 1) := by decide +kernel
theorem dX5_length_14 : decode cX5_length 14 = .ok (.bipush 7, 2) := by decide +kernel
theorem dX5_length_16 : decode cX5_length 16 = .ok (.iand, 1) := by decide +kernel
theorem dX5_length_17 : decode cX5_length 17 = .ok (.ifCond .eq 6, 3) := by decide +kernel
theorem dX5_length_20 : decode cX5_length 20 = .ok (.iinc 1 1, 3) := by decide +kernel
theorem dX5_length_23 : decode cX5_length 23 = .ok (.iinc 2 1, 3) := by decide +kernel
theorem dX5_length_26 : decode cX5_length 26 = .ok (.goto (-22), 3) := by decide +kernel
theorem dX5_length_29 : decode cX5_length 29 = .ok (.iload_n 1, 1) := by decide +kernel
theorem dX5_length_30 : decode cX5_length 30 = .ok (.ireturn, 1) := by decide +kernel
theorem dX5_withLast_0 : decode cX5_withLast 0 = .ok (.iconst 0, 1) := by decide +kernel
theorem dX5_withLast_1 : decode cX5_withLast 1 = .ok (.istore_n 2, 1) := by decide +kernel
theorem dX5_withLast_2 : decode cX5_withLast 2 = .ok (.iload_n 2, 1) := by decide +kernel
theorem dX5_withLast_3 : decode cX5_withLast 3 = .ok (.bipush 12, 2) := by decide +kernel
theorem dX5_withLast_5 : decode cX5_withLast 5 = .ok (.if_icmp .ge 26, 3) := by decide +kernel
theorem dX5_withLast_8 : decode cX5_withLast 8 = .ok (.iload_n 0, 1) := by decide +kernel
theorem dX5_withLast_9 : decode cX5_withLast 9 = .ok (.iload_n 2, 1) := by decide +kernel
theorem dX5_withLast_10 : decode cX5_withLast 10 = .ok (.iushr, 1) := by decide +kernel
theorem dX5_withLast_11 : decode cX5_withLast 11 = .ok (.bipush 7, 2) := by decide +kernel
theorem dX5_withLast_13 : decode cX5_withLast 13 = .ok (.iand, 1) := by decide +kernel
theorem dX5_withLast_14 : decode cX5_withLast 14 = .ok (.ifCond .ne 11, 3) := by decide +kernel
theorem dX5_withLast_17 : decode cX5_withLast 17 = .ok (.iload_n 0, 1) := by decide +kernel
theorem dX5_withLast_18 : decode cX5_withLast 18 = .ok (.iload_n 1, 1) := by decide +kernel
theorem dX5_withLast_19 : decode cX5_withLast 19 = .ok (.iconst 1, 1) := by decide +kernel
theorem dX5_withLast_20 : decode cX5_withLast 20 = .ok (.iadd, 1) := by decide +kernel
theorem dX5_withLast_21 : decode cX5_withLast 21 = .ok (.iload_n 2, 1) := by decide +kernel
theorem dX5_withLast_22 : decode cX5_withLast 22 = .ok (.ishl, 1) := by decide +kernel
theorem dX5_withLast_23 : decode cX5_withLast 23 = .ok (.ior, 1) := by decide +kernel
theorem dX5_withLast_24 : decode cX5_withLast 24 = .ok (.ireturn, 1) := by decide +kernel
theorem dX5_withLast_25 : decode cX5_withLast 25 = .ok (.iinc 2 3, 3) := by decide +kernel
theorem dX5_withLast_28 : decode cX5_withLast 28 = .ok (.goto (-26), 3) := by decide +kernel
theorem dX5_withLast_31 : decode cX5_withLast 31 = .ok (.iload_n 0, 1) := by decide +kernel
theorem dX5_withLast_32 : decode cX5_withLast 32 = .ok (.ireturn, 1) := by decide +kernel
theorem dX5_withoutFirst_0 : decode cX5_withoutFirst 0 = .ok (.iload_n 0, 1) := by decide +kernel
theorem dX5_withoutFirst_1 : decode cX5_withoutFirst 1 = .ok (.iconst 3, 1) := by decide +kernel
theorem dX5_withoutFirst_2 : decode cX5_withoutFirst 2 = .ok (.iushr, 1) := by decide +kernel
theorem dX5_withoutFirst_3 : decode cX5_withoutFirst 3 = .ok (.ireturn, 1) := by decide +kernel
theorem dX6_begin_0 : decode cX6_begin 0 = .ok (.aload_n 0, 1) := by decide +kernel
theorem dX6_begin_1 : decode cX6_begin 1 = .ok (.getfield 18, 3) := by decide +kernel
theorem dX6_begin_4 : decode cX6_begin 4 = .ok (.aload_n 1, 1) := by decide +kernel
theorem dX6_begin_5 : decode cX6_begin 5 = .ok (.invokevirtual 96, 3) := by decide +kernel
theorem dX6_begin_8 : decode cX6_begin 8 = .ok (.aload_n 0, 1) := by decide +kernel
theorem dX6_begin_9 : decode cX6_begin 9 = .ok (.getfield 25, 3) := by decide +kernel
theorem dX6_begin_12 : decode cX6_begin 12 = .ok (.invokevirtual 99, 3) := by decide +kernel
theorem dX6_begin_15 : decode cX6_begin 15 = .ok (.aload_n 0, 1) := by decide +kernel
theorem dX6_begin_16 : decode cX6_begin 16 = .ok (.getfield 42, 3) := by decide +kernel
theorem dX6_begin_19 : decode cX6_begin 19 = .ok (.iconst 0, 1) := by decide +kernel
theorem dX6_begin_20 : decode cX6_begin 20 = .ok (.invokestatic 102, 3) := by decide +kernel
theorem dX6_begin_23 : decode cX6_begin 23 = .ok (.aload_n 0, 1) := by decide +kernel
theorem dX6_begin_24 : decode cX6_begin 24 = .ok (.iconst 1, 1) := by decide +kernel
theorem dX6_begin_25 : decode cX6_begin 25 = .ok (.putfield 45, 3) := by decide +kernel
theorem dX6_begin_28 : decode cX6_begin 28 = .ok (.aload_n 0, 1) := by decide +kernel
theorem dX6_begin_29 : decode cX6_begin 29 = .ok (.iconst 0, 1) := by decide +kernel
theorem dX6_begin_30 : decode cX6_begin 30 = .ok (.putfield 48, 3) := by decide +kernel
theorem dX6_begin_33 : decode cX6_begin 33 = .ok (.aload_n 0, 1) := by decide +kernel
theorem dX6_begin_34 : decode cX6_begin 34 = .ok (.iconst (-1), 1) := by decide +kernel
theorem dX6_begin_35 : decode cX6_begin 35 = .ok (.putfield 51, 3) := by decide +kernel
theorem dX6_begin_38 : decode cX6_begin 38 = .ok (.aload_n 0, 1) := by decide +kernel
theorem dX6_begin_39 : decode cX6_begin 39 = .ok (.iconst (-1), 1) := by decide +kernel
theorem dX6_begin_40 : decode cX6_begin 40 = .ok (.putfield 55, 3) := by decide +kernel
theorem dX6_begin_43 : decode cX6_begin 43 = .ok (.aload_n 0, 1) := by decide +kernel
theorem dX6_begin_44 : decode cX6_begin 44 = .ok (.iconst 0, 1) := by decide +kernel
theorem dX6_begin_45 : decode cX6_begin 45 = .ok (.putfield 58, 3) := by decide +kernel
theorem dX6_begin_48 : decode cX6_begin 48 = .ok (.aload_n 0, 1) := by decide +kernel
theorem dX6_begin_49 : decode cX6_begin 49 = .ok (.iconst 0, 1) := by decide +kernel
theorem dX6_begin_50 : decode cX6_begin 50 = .ok (.putfield 61, 3) := by decide +kernel
theorem dX6_begin_53 : decode cX6_begin 53 = .ok (.aload_n 0, 1) := by decide +kernel
theorem dX6_begin_54 : decode cX6_begin 54 = .ok (.iconst 0, 1) := by decide +kernel
theorem dX6_begin_55 : decode cX6_begin 55 = .ok (.putfield 64, 3) := by decide +kernel
theorem dX6_begin_58 : decode cX6_begin 58 = .ok (.return_, 1) := by decide +kernel
theorem dX6_cellOfOutcome_0 : decode cX6_cellOfOutcome 0 = .ok (.iload_n 1, 1) := by decide +kernel
theorem dX6_cellOfOutcome_1 : decode cX6_cellOfOutcome 1 = .ok (.ifCond .lt 11, 3) := by decide +kernel
theorem dX6_cellOfOutcome_4 : decode cX6_cellOfOutcome 4 = .ok (.iload_n 1, 1) := by decide +kernel
theorem dX6_cellOfOutcome_5 : decode cX6_cellOfOutcome 5 = .ok (.aload_n 0, 1) := by decide +kernel
theorem dX6_cellOfOutcome_6 : decode cX6_cellOfOutcome 6 = .ok (.getfield 64, 3) := by decide +kernel
theorem dX6_cellOfOutcome_9 : decode cX6_cellOfOutcome 9 = .ok (.if_icmp .lt 8, 3) := by decide +kernel
theorem dX6_cellOfOutcome_12 : decode cX6_cellOfOutcome 12 = .ok (.bipush (-100), 2) := by decide +kernel
theorem dX6_cellOfOutcome_14 : decode cX6_cellOfOutcome 14 = .ok (.goto 13, 3) := by decide +kernel
theorem dX6_cellOfOutcome_17 : decode cX6_cellOfOutcome 17 = .ok (.aload_n 0, 1) := by decide +kernel
theorem dX6_cellOfOutcome_18 : decode cX6_cellOfOutcome 18 = .ok (.getfield 39, 3) := by decide +kernel
theorem dX6_cellOfOutcome_21 : decode cX6_cellOfOutcome 21 = .ok (.iload_n 1, 1) := by decide +kernel
theorem dX6_cellOfOutcome_22 : decode cX6_cellOfOutcome 22 = .ok (.iaload, 1) := by decide +kernel
theorem dX6_cellOfOutcome_23 : decode cX6_cellOfOutcome 23 = .ok (.iload_n 2, 1) := by decide +kernel
theorem dX6_cellOfOutcome_24 : decode cX6_cellOfOutcome 24 = .ok (.invokestatic 147, 3) := by decide +kernel
theorem dX6_cellOfOutcome_27 : decode cX6_cellOfOutcome 27 = .ok (.ireturn, 1) := by decide +kernel
theorem dX6_depthOf_0 : decode cX6_depthOf 0 = .ok (.iload_n 1, 1) := by decide +kernel
theorem dX6_depthOf_1 : decode cX6_depthOf 1 = .ok (.ifCond .lt 14, 3) := by decide +kernel
theorem dX6_depthOf_4 : decode cX6_depthOf 4 = .ok (.iload_n 1, 1) := by decide +kernel
theorem dX6_depthOf_5 : decode cX6_depthOf 5 = .ok (.aload_n 0, 1) := by decide +kernel
theorem dX6_depthOf_6 : decode cX6_depthOf 6 = .ok (.getfield 25, 3) := by decide +kernel
theorem dX6_depthOf_9 : decode cX6_depthOf 9 = .ok (.getfield 79, 3) := by decide +kernel
theorem dX6_depthOf_12 : decode cX6_depthOf 12 = .ok (.if_icmp .lt 8, 3) := by decide +kernel
theorem dX6_depthOf_15 : decode cX6_depthOf 15 = .ok (.bipush (-5), 2) := by decide +kernel
theorem dX6_depthOf_17 : decode cX6_depthOf 17 = .ok (.goto 9, 3) := by decide +kernel
theorem dX6_depthOf_20 : decode cX6_depthOf 20 = .ok (.aload_n 0, 1) := by decide +kernel
theorem dX6_depthOf_21 : decode cX6_depthOf 21 = .ok (.getfield 36, 3) := by decide +kernel
theorem dX6_depthOf_24 : decode cX6_depthOf 24 = .ok (.iload_n 1, 1) := by decide +kernel
theorem dX6_depthOf_25 : decode cX6_depthOf 25 = .ok (.iaload, 1) := by decide +kernel
theorem dX6_depthOf_26 : decode cX6_depthOf 26 = .ok (.ireturn, 1) := by decide +kernel
theorem dX6_explore_0 : decode cX6_explore 0 = .ok (.aload_n 0, 1) := by decide +kernel
theorem dX6_explore_1 : decode cX6_explore 1 = .ok (.getfield 9, 3) := by decide +kernel
theorem dX6_explore_4 : decode cX6_explore 4 = .ok (.ifCond .eq 4, 3) := by decide +kernel
theorem dX6_explore_7 : decode cX6_explore 7 = .ok (.return_, 1) := by decide +kernel
theorem dX6_explore_8 : decode cX6_explore 8 = .ok (.aload_n 0, 1) := by decide +kernel
theorem dX6_explore_9 : decode cX6_explore 9 = .ok (.aload_n 1, 1) := by decide +kernel
theorem dX6_explore_10 : decode cX6_explore 10 = .ok (.invokevirtual 67, 3) := by decide +kernel
theorem dX6_explore_13 : decode cX6_explore 13 = .ok (.aload_n 0, 1) := by decide +kernel
theorem dX6_explore_14 : decode cX6_explore 14 = .ok (.aload_n 0, 1) := by decide +kernel
theorem dX6_explore_15 : decode cX6_explore 15 = .ok (.getfield 25, 3) := by decide +kernel
theorem dX6_explore_18 : decode cX6_explore 18 = .ok (.aload_n 0, 1) := by decide +kernel
theorem dX6_explore_19 : decode cX6_explore 19 = .ok (.getfield 18, 3) := by decide +kernel
theorem dX6_explore_22 : decode cX6_explore 22 = .ok (.invokevirtual 71, 3) := by decide +kernel
theorem dX6_explore_25 : decode cX6_explore 25 = .ok (.iconst 0, 1) := by decide +kernel
theorem dX6_explore_26 : decode cX6_explore 26 = .ok (.iconst (-1), 1) := by decide +kernel
theorem dX6_explore_27 : decode cX6_explore 27 = .ok (.aload_n 2, 1) := by decide +kernel
theorem dX6_explore_28 : decode cX6_explore 28 = .ok (.invokevirtual 75, 3) := by decide +kernel
theorem dX6_explore_31 : decode cX6_explore 31 = .ok (.iconst 0, 1) := by decide +kernel
theorem dX6_explore_32 : decode cX6_explore 32 = .ok (.istore_n 3, 1) := by decide +kernel
theorem dX6_explore_33 : decode cX6_explore 33 = .ok (.iload_n 3, 1) := by decide +kernel
theorem dX6_explore_34 : decode cX6_explore 34 = .ok (.sipush 600, 3) := by decide +kernel
theorem dX6_explore_37 : decode cX6_explore 37 = .ok (.if_icmp .ge 108, 3) := by decide +kernel
theorem dX6_explore_40 : decode cX6_explore 40 = .ok (.iload_n 3, 1) := by decide +kernel
theorem dX6_explore_41 : decode cX6_explore 41 = .ok (.aload_n 0, 1) := by decide +kernel
theorem dX6_explore_42 : decode cX6_explore 42 = .ok (.getfield 25, 3) := by decide +kernel
theorem dX6_explore_45 : decode cX6_explore 45 = .ok (.getfield 79, 3) := by decide +kernel
theorem dX6_explore_48 : decode cX6_explore 48 = .ok (.if_icmp .ge 97, 3) := by decide +kernel
theorem dX6_explore_51 : decode cX6_explore 51 = .ok (.aload_n 0, 1) := by decide +kernel
theorem dX6_explore_52 : decode cX6_explore 52 = .ok (.getfield 45, 3) := by decide +kernel
theorem dX6_explore_55 : decode cX6_explore 55 = .ok (.ifCond .eq 90, 3) := by decide +kernel
theorem dX6_explore_58 : decode cX6_explore 58 = .ok (.iconst 0, 1) := by decide +kernel
theorem dX6_explore_59 : decode cX6_explore 59 = .ok (.istore 4, 2) := by decide +kernel
theorem dX6_explore_61 : decode cX6_explore 61 = .ok (.iload 4, 2) := by decide +kernel
theorem dX6_explore_63 : decode cX6_explore 63 = .ok (.aload_n 0, 1) := by decide +kernel
theorem dX6_explore_64 : decode cX6_explore 64 = .ok (.getfield 18, 3) := by decide +kernel
theorem dX6_explore_67 : decode cX6_explore 67 = .ok (.getfield 82, 3) := by decide +kernel
theorem dX6_explore_70 : decode cX6_explore 70 = .ok (.if_icmp .ge 69, 3) := by decide +kernel
theorem dX6_explore_73 : decode cX6_explore 73 = .ok (.aload_n 0, 1) := by decide +kernel
theorem dX6_explore_74 : decode cX6_explore 74 = .ok (.getfield 45, 3) := by decide +kernel
theorem dX6_explore_77 : decode cX6_explore 77 = .ok (.ifCond .eq 62, 3) := by decide +kernel
theorem dX6_explore_80 : decode cX6_explore 80 = .ok (.aload_n 0, 1) := by decide +kernel
theorem dX6_explore_81 : decode cX6_explore 81 = .ok (.getfield 25, 3) := by decide +kernel
theorem dX6_explore_84 : decode cX6_explore 84 = .ok (.iload_n 3, 1) := by decide +kernel
theorem dX6_explore_85 : decode cX6_explore 85 = .ok (.aload_n 0, 1) := by decide +kernel
theorem dX6_explore_86 : decode cX6_explore 86 = .ok (.getfield 18, 3) := by decide +kernel
theorem dX6_explore_89 : decode cX6_explore 89 = .ok (.invokevirtual 85, 3) := by decide +kernel
theorem dX6_explore_92 : decode cX6_explore 92 = .ok (.aload_n 0, 1) := by decide +kernel
theorem dX6_explore_93 : decode cX6_explore 93 = .ok (.getfield 18, 3) := by decide +kernel
theorem dX6_explore_96 : decode cX6_explore 96 = .ok (.getfield 89, 3) := by decide +kernel
theorem dX6_explore_99 : decode cX6_explore 99 = .ok (.iload 4, 2) := by decide +kernel
theorem dX6_explore_101 : decode cX6_explore 101 = .ok (.iaload, 1) := by decide +kernel
theorem dX6_explore_102 : decode cX6_explore 102 = .ok (.ifCond .ne 31, 3) := by decide +kernel
theorem dX6_explore_105 : decode cX6_explore 105 = .ok (.aload_n 0, 1) := by decide +kernel
theorem dX6_explore_106 : decode cX6_explore 106 = .ok (.getfield 18, 3) := by decide +kernel
theorem dX6_explore_109 : decode cX6_explore 109 = .ok (.iload 4, 2) := by decide +kernel
theorem dX6_explore_111 : decode cX6_explore 111 = .ok (.invokevirtual 92, 3) := by decide +kernel
theorem dX6_explore_114 : decode cX6_explore 114 = .ok (.aload_n 0, 1) := by decide +kernel
theorem dX6_explore_115 : decode cX6_explore 115 = .ok (.aload_n 0, 1) := by decide +kernel
theorem dX6_explore_116 : decode cX6_explore 116 = .ok (.getfield 25, 3) := by decide +kernel
theorem dX6_explore_119 : decode cX6_explore 119 = .ok (.aload_n 0, 1) := by decide +kernel
theorem dX6_explore_120 : decode cX6_explore 120 = .ok (.getfield 18, 3) := by decide +kernel
theorem dX6_explore_123 : decode cX6_explore 123 = .ok (.invokevirtual 71, 3) := by decide +kernel
theorem dX6_explore_126 : decode cX6_explore 126 = .ok (.iload_n 3, 1) := by decide +kernel
theorem dX6_explore_127 : decode cX6_explore 127 = .ok (.iload 4, 2) := by decide +kernel
theorem dX6_explore_129 : decode cX6_explore 129 = .ok (.aload_n 2, 1) := by decide +kernel
theorem dX6_explore_130 : decode cX6_explore 130 = .ok (.invokevirtual 75, 3) := by decide +kernel
theorem dX6_explore_133 : decode cX6_explore 133 = .ok (.iinc 4 1, 3) := by decide +kernel
theorem dX6_explore_136 : decode cX6_explore 136 = .ok (.goto (-75), 3) := by decide +kernel
theorem dX6_explore_139 : decode cX6_explore 139 = .ok (.iinc 3 1, 3) := by decide +kernel
theorem dX6_explore_142 : decode cX6_explore 142 = .ok (.goto (-109), 3) := by decide +kernel
theorem dX6_explore_145 : decode cX6_explore 145 = .ok (.aload_n 0, 1) := by decide +kernel
theorem dX6_explore_146 : decode cX6_explore 146 = .ok (.iconst 1, 1) := by decide +kernel
theorem dX6_explore_147 : decode cX6_explore 147 = .ok (.putfield 9, 3) := by decide +kernel
theorem dX6_explore_150 : decode cX6_explore 150 = .ok (.return_, 1) := by decide +kernel
theorem dX6_forget_0 : decode cX6_forget 0 = .ok (.aload_n 0, 1) := by decide +kernel
theorem dX6_forget_1 : decode cX6_forget 1 = .ok (.iconst 0, 1) := by decide +kernel
theorem dX6_forget_2 : decode cX6_forget 2 = .ok (.putfield 9, 3) := by decide +kernel
theorem dX6_forget_5 : decode cX6_forget 5 = .ok (.return_, 1) := by decide +kernel
theorem dX6_goesRound_0 : decode cX6_goesRound 0 = .ok (.iconst 0, 1) := by decide +kernel
theorem dX6_goesRound_1 : decode cX6_goesRound 1 = .ok (.istore_n 1, 1) := by decide +kernel
theorem dX6_goesRound_2 : decode cX6_goesRound 2 = .ok (.iconst 0, 1) := by decide +kernel
theorem dX6_goesRound_3 : decode cX6_goesRound 3 = .ok (.istore_n 2, 1) := by decide +kernel
theorem dX6_goesRound_4 : decode cX6_goesRound 4 = .ok (.iload_n 2, 1) := by decide +kernel
theorem dX6_goesRound_5 : decode cX6_goesRound 5 = .ok (.iconst 3, 1) := by decide +kernel
theorem dX6_goesRound_6 : decode cX6_goesRound 6 = .ok (.if_icmp .ge 89, 3) := by decide +kernel
theorem dX6_goesRound_9 : decode cX6_goesRound 9 = .ok (.aload_n 0, 1) := by decide +kernel
theorem dX6_goesRound_10 : decode cX6_goesRound 10 = .ok (.getfield 42, 3) := by decide +kernel
theorem dX6_goesRound_13 : decode cX6_goesRound 13 = .ok (.iload_n 2, 1) := by decide +kernel
theorem dX6_goesRound_14 : decode cX6_goesRound 14 = .ok (.iaload, 1) := by decide +kernel
theorem dX6_goesRound_15 : decode cX6_goesRound 15 = .ok (.istore_n 3, 1) := by decide +kernel
theorem dX6_goesRound_16 : decode cX6_goesRound 16 = .ok (.iconst 0, 1) := by decide +kernel
theorem dX6_goesRound_17 : decode cX6_goesRound 17 = .ok (.istore 4, 2) := by decide +kernel
theorem dX6_goesRound_19 : decode cX6_goesRound 19 = .ok (.iload 4, 2) := by decide +kernel
theorem dX6_goesRound_21 : decode cX6_goesRound 21 = .ok (.iconst 3, 1) := by decide +kernel
theorem dX6_goesRound_22 : decode cX6_goesRound 22 = .ok (.if_icmp .ge 48, 3) := by decide +kernel
theorem dX6_goesRound_25 : decode cX6_goesRound 25 = .ok (.iconst 0, 1) := by decide +kernel
theorem dX6_goesRound_26 : decode cX6_goesRound 26 = .ok (.istore 5, 2) := by decide +kernel
theorem dX6_goesRound_28 : decode cX6_goesRound 28 = .ok (.iload 5, 2) := by decide +kernel
theorem dX6_goesRound_30 : decode cX6_goesRound 30 = .ok (.iconst 3, 1) := by decide +kernel
theorem dX6_goesRound_31 : decode cX6_goesRound 31 = .ok (.if_icmp .ge 33, 3) := by decide +kernel
theorem dX6_goesRound_34 : decode cX6_goesRound 34 = .ok (.iload_n 3, 1) := by decide +kernel
theorem dX6_goesRound_35 : decode cX6_goesRound 35 = .ok (.iload_n 3, 1) := by decide +kernel
theorem dX6_goesRound_36 : decode cX6_goesRound 36 = .ok (.iload 5, 2) := by decide +kernel
theorem dX6_goesRound_38 : decode cX6_goesRound 38 = .ok (.iushr, 1) := by decide +kernel
theorem dX6_goesRound_39 : decode cX6_goesRound 39 = .ok (.iconst 1, 1) := by decide +kernel
theorem dX6_goesRound_40 : decode cX6_goesRound 40 = .ok (.iand, 1) := by decide +kernel
theorem dX6_goesRound_41 : decode cX6_goesRound 41 = .ok (.iconst 1, 1) := by decide +kernel
theorem dX6_goesRound_42 : decode cX6_goesRound 42 = .ok (.if_icmp .ne 13, 3) := by decide +kernel
theorem dX6_goesRound_45 : decode cX6_goesRound 45 = .ok (.aload_n 0, 1) := by decide +kernel
theorem dX6_goesRound_46 : decode cX6_goesRound 46 = .ok (.getfield 42, 3) := by decide +kernel
theorem dX6_goesRound_49 : decode cX6_goesRound 49 = .ok (.iload 5, 2) := by decide +kernel
theorem dX6_goesRound_51 : decode cX6_goesRound 51 = .ok (.iaload, 1) := by decide +kernel
theorem dX6_goesRound_52 : decode cX6_goesRound 52 = .ok (.goto 4, 3) := by decide +kernel
theorem dX6_goesRound_55 : decode cX6_goesRound 55 = .ok (.iconst 0, 1) := by decide +kernel
theorem dX6_goesRound_56 : decode cX6_goesRound 56 = .ok (.ior, 1) := by decide +kernel
theorem dX6_goesRound_57 : decode cX6_goesRound 57 = .ok (.istore_n 3, 1) := by decide +kernel
theorem dX6_goesRound_58 : decode cX6_goesRound 58 = .ok (.iinc 5 1, 3) := by decide +kernel
theorem dX6_goesRound_61 : decode cX6_goesRound 61 = .ok (.goto (-33), 3) := by decide +kernel
theorem dX6_goesRound_64 : decode cX6_goesRound 64 = .ok (.iinc 4 1, 3) := by decide +kernel
theorem dX6_goesRound_67 : decode cX6_goesRound 67 = .ok (.goto (-48), 3) := by decide +kernel
theorem dX6_goesRound_70 : decode cX6_goesRound 70 = .ok (.iload_n 1, 1) := by decide +kernel
theorem dX6_goesRound_71 : decode cX6_goesRound 71 = .ok (.ifCond .ne 12, 3) := by decide +kernel
theorem dX6_goesRound_74 : decode cX6_goesRound 74 = .ok (.iload_n 3, 1) := by decide +kernel
theorem dX6_goesRound_75 : decode cX6_goesRound 75 = .ok (.iload_n 2, 1) := by decide +kernel
theorem dX6_goesRound_76 : decode cX6_goesRound 76 = .ok (.iushr, 1) := by decide +kernel
theorem dX6_goesRound_77 : decode cX6_goesRound 77 = .ok (.iconst 1, 1) := by decide +kernel
theorem dX6_goesRound_78 : decode cX6_goesRound 78 = .ok (.iand, 1) := by decide +kernel
theorem dX6_goesRound_79 : decode cX6_goesRound 79 = .ok (.iconst 1, 1) := by decide +kernel
theorem dX6_goesRound_80 : decode cX6_goesRound 80 = .ok (.if_icmp .ne 7, 3) := by decide +kernel
theorem dX6_goesRound_83 : decode cX6_goesRound 83 = .ok (.iconst 1, 1) := by decide +kernel
theorem dX6_goesRound_84 : decode cX6_goesRound 84 = .ok (.goto 4, 3) := by decide +kernel
theorem dX6_goesRound_87 : decode cX6_goesRound 87 = .ok (.iconst 0, 1) := by decide +kernel
theorem dX6_goesRound_88 : decode cX6_goesRound 88 = .ok (.istore_n 1, 1) := by decide +kernel
theorem dX6_goesRound_89 : decode cX6_goesRound 89 = .ok (.iinc 2 1, 3) := by decide +kernel
theorem dX6_goesRound_92 : decode cX6_goesRound 92 = .ok (.goto (-88), 3) := by decide +kernel
theorem dX6_goesRound_95 : decode cX6_goesRound 95 = .ok (.iload_n 1, 1) := by decide +kernel
theorem dX6_goesRound_96 : decode cX6_goesRound 96 = .ok (.ireturn, 1) := by decide +kernel
theorem dX6_greatestDepth_0 : decode cX6_greatestDepth 0 = .ok (.aload_n 0, 1) := by decide +kernel
theorem dX6_greatestDepth_1 : decode cX6_greatestDepth 1 = .ok (.aload_n 0, 1) := by decide +kernel
theorem dX6_greatestDepth_2 : decode cX6_greatestDepth 2 = .ok (.getfield 25, 3) := by decide +kernel
theorem dX6_greatestDepth_5 : decode cX6_greatestDepth 5 = .ok (.getfield 79, 3) := by decide +kernel
theorem dX6_greatestDepth_8 : decode cX6_greatestDepth 8 = .ok (.iconst 1, 1) := by decide +kernel
theorem dX6_greatestDepth_9 : decode cX6_greatestDepth 9 = .ok (.isub, 1) := by decide +kernel
theorem dX6_greatestDepth_10 : decode cX6_greatestDepth 10 = .ok (.invokevirtual 144, 3) := by decide +kernel
theorem dX6_greatestDepth_13 : decode cX6_greatestDepth 13 = .ok (.ireturn, 1) := by decide +kernel
theorem dX6_init_0 : decode cX6_init 0 = .ok (.aload_n 0, 1) := by decide +kernel
theorem dX6_init_1 : decode cX6_init 1 = .ok (.invokespecial 3, 3) := by decide +kernel
theorem dX6_init_4 : decode cX6_init 4 = .ok (.aload_n 0, 1) := by decide +kernel
theorem dX6_init_5 : decode cX6_init 5 = .ok (.iconst 0, 1) := by decide +kernel
theorem dX6_init_6 : decode cX6_init 6 = .ok (.putfield 9, 3) := by decide +kernel
theorem dX6_init_9 : decode cX6_init 9 = .ok (.aload_n 0, 1) := by decide +kernel
theorem dX6_init_10 : decode cX6_init 10 = .ok (.new 15, 3) := by decide +kernel
theorem dX6_init_13 : decode cX6_init 13 = .ok (.dup, 1) := by decide +kernel
theorem dX6_init_14 : decode cX6_init 14 = .ok (.invokespecial 17, 3) := by decide +kernel
theorem dX6_init_17 : decode cX6_init 17 = .ok (.putfield 18, 3) := by decide +kernel
theorem dX6_init_20 : decode cX6_init 20 = .ok (.aload_n 0, 1) := by decide +kernel
theorem dX6_init_21 : decode cX6_init 21 = .ok (.new 22, 3) := by decide +kernel
theorem dX6_init_24 : decode cX6_init 24 = .ok (.dup, 1) := by decide +kernel
theorem dX6_init_25 : decode cX6_init 25 = .ok (.invokespecial 24, 3) := by decide +kernel
theorem dX6_init_28 : decode cX6_init 28 = .ok (.putfield 25, 3) := by decide +kernel
theorem dX6_init_31 : decode cX6_init 31 = .ok (.aload_n 0, 1) := by decide +kernel
theorem dX6_init_32 : decode cX6_init 32 = .ok (.sipush 600, 3) := by decide +kernel
theorem dX6_init_35 : decode cX6_init 35 = .ok (.newarray .int, 2) := by decide +kernel
theorem dX6_init_37 : decode cX6_init 37 = .ok (.putfield 29, 3) := by decide +kernel
theorem dX6_init_40 : decode cX6_init 40 = .ok (.aload_n 0, 1) := by decide +kernel
theorem dX6_init_41 : decode cX6_init 41 = .ok (.sipush 600, 3) := by decide +kernel
theorem dX6_init_44 : decode cX6_init 44 = .ok (.newarray .int, 2) := by decide +kernel
theorem dX6_init_46 : decode cX6_init 46 = .ok (.putfield 33, 3) := by decide +kernel
theorem dX6_init_49 : decode cX6_init 49 = .ok (.aload_n 0, 1) := by decide +kernel
theorem dX6_init_50 : decode cX6_init 50 = .ok (.sipush 600, 3) := by decide +kernel
theorem dX6_init_53 : decode cX6_init 53 = .ok (.newarray .int, 2) := by decide +kernel
theorem dX6_init_55 : decode cX6_init 55 = .ok (.putfield 36, 3) := by decide +kernel
theorem dX6_init_58 : decode cX6_init 58 = .ok (.aload_n 0, 1) := by decide +kernel
theorem dX6_init_59 : decode cX6_init 59 = .ok (.sipush 600, 3) := by decide +kernel
theorem dX6_init_62 : decode cX6_init 62 = .ok (.newarray .int, 2) := by decide +kernel
theorem dX6_init_64 : decode cX6_init 64 = .ok (.putfield 39, 3) := by decide +kernel
theorem dX6_init_67 : decode cX6_init 67 = .ok (.aload_n 0, 1) := by decide +kernel
theorem dX6_init_68 : decode cX6_init 68 = .ok (.iconst 3, 1) := by decide +kernel
theorem dX6_init_69 : decode cX6_init 69 = .ok (.newarray .int, 2) := by decide +kernel
theorem dX6_init_71 : decode cX6_init 71 = .ok (.putfield 42, 3) := by decide +kernel
theorem dX6_init_74 : decode cX6_init 74 = .ok (.aload_n 0, 1) := by decide +kernel
theorem dX6_init_75 : decode cX6_init 75 = .ok (.iconst 1, 1) := by decide +kernel
theorem dX6_init_76 : decode cX6_init 76 = .ok (.putfield 45, 3) := by decide +kernel
theorem dX6_init_79 : decode cX6_init 79 = .ok (.aload_n 0, 1) := by decide +kernel
theorem dX6_init_80 : decode cX6_init 80 = .ok (.iconst 0, 1) := by decide +kernel
theorem dX6_init_81 : decode cX6_init 81 = .ok (.putfield 48, 3) := by decide +kernel
theorem dX6_init_84 : decode cX6_init 84 = .ok (.aload_n 0, 1) := by decide +kernel
theorem dX6_init_85 : decode cX6_init 85 = .ok (.iconst (-1), 1) := by decide +kernel
theorem dX6_init_86 : decode cX6_init 86 = .ok (.putfield 51, 3) := by decide +kernel
theorem dX6_init_89 : decode cX6_init 89 = .ok (.aload_n 0, 1) := by decide +kernel
theorem dX6_init_90 : decode cX6_init 90 = .ok (.iconst (-1), 1) := by decide +kernel
theorem dX6_init_91 : decode cX6_init 91 = .ok (.putfield 55, 3) := by decide +kernel
theorem dX6_init_94 : decode cX6_init 94 = .ok (.aload_n 0, 1) := by decide +kernel
theorem dX6_init_95 : decode cX6_init 95 = .ok (.iconst 0, 1) := by decide +kernel
theorem dX6_init_96 : decode cX6_init 96 = .ok (.putfield 58, 3) := by decide +kernel
theorem dX6_init_99 : decode cX6_init 99 = .ok (.aload_n 0, 1) := by decide +kernel
theorem dX6_init_100 : decode cX6_init 100 = .ok (.iconst 0, 1) := by decide +kernel
theorem dX6_init_101 : decode cX6_init 101 = .ok (.putfield 61, 3) := by decide +kernel
theorem dX6_init_104 : decode cX6_init 104 = .ok (.aload_n 0, 1) := by decide +kernel
theorem dX6_init_105 : decode cX6_init 105 = .ok (.iconst 0, 1) := by decide +kernel
theorem dX6_init_106 : decode cX6_init 106 = .ok (.putfield 64, 3) := by decide +kernel
theorem dX6_init_109 : decode cX6_init 109 = .ok (.return_, 1) := by decide +kernel
theorem dX6_moverOf_0 : decode cX6_moverOf 0 = .ok (.aload_n 0, 1) := by decide +kernel
theorem dX6_moverOf_1 : decode cX6_moverOf 1 = .ok (.iload_n 1, 1) := by decide +kernel
theorem dX6_moverOf_2 : decode cX6_moverOf 2 = .ok (.invokevirtual 144, 3) := by decide +kernel
theorem dX6_moverOf_5 : decode cX6_moverOf 5 = .ok (.istore_n 3, 1) := by decide +kernel
theorem dX6_moverOf_6 : decode cX6_moverOf 6 = .ok (.iload_n 2, 1) := by decide +kernel
theorem dX6_moverOf_7 : decode cX6_moverOf 7 = .ok (.ifCond .lt 8, 3) := by decide +kernel
theorem dX6_moverOf_10 : decode cX6_moverOf 10 = .ok (.iload_n 2, 1) := by decide +kernel
theorem dX6_moverOf_11 : decode cX6_moverOf 11 = .ok (.iload_n 3, 1) := by decide +kernel
theorem dX6_moverOf_12 : decode cX6_moverOf 12 = .ok (.if_icmp .lt 5, 3) := by decide +kernel
theorem dX6_moverOf_15 : decode cX6_moverOf 15 = .ok (.iconst (-1), 1) := by decide +kernel
theorem dX6_moverOf_16 : decode cX6_moverOf 16 = .ok (.ireturn, 1) := by decide +kernel
theorem dX6_moverOf_17 : decode cX6_moverOf 17 = .ok (.iload_n 1, 1) := by decide +kernel
theorem dX6_moverOf_18 : decode cX6_moverOf 18 = .ok (.istore 4, 2) := by decide +kernel
theorem dX6_moverOf_20 : decode cX6_moverOf 20 = .ok (.iload_n 3, 1) := by decide +kernel
theorem dX6_moverOf_21 : decode cX6_moverOf 21 = .ok (.iconst 1, 1) := by decide +kernel
theorem dX6_moverOf_22 : decode cX6_moverOf 22 = .ok (.isub, 1) := by decide +kernel
theorem dX6_moverOf_23 : decode cX6_moverOf 23 = .ok (.istore 5, 2) := by decide +kernel
theorem dX6_moverOf_25 : decode cX6_moverOf 25 = .ok (.iload 5, 2) := by decide +kernel
theorem dX6_moverOf_27 : decode cX6_moverOf 27 = .ok (.iload_n 2, 1) := by decide +kernel
theorem dX6_moverOf_28 : decode cX6_moverOf 28 = .ok (.if_icmp .le 18, 3) := by decide +kernel
theorem dX6_moverOf_31 : decode cX6_moverOf 31 = .ok (.aload_n 0, 1) := by decide +kernel
theorem dX6_moverOf_32 : decode cX6_moverOf 32 = .ok (.getfield 29, 3) := by decide +kernel
theorem dX6_moverOf_35 : decode cX6_moverOf 35 = .ok (.iload 4, 2) := by decide +kernel
theorem dX6_moverOf_37 : decode cX6_moverOf 37 = .ok (.iaload, 1) := by decide +kernel
theorem dX6_moverOf_38 : decode cX6_moverOf 38 = .ok (.istore 4, 2) := by decide +kernel
theorem dX6_moverOf_40 : decode cX6_moverOf 40 = .ok (.iinc 5 (-1), 3) := by decide +kernel
theorem dX6_moverOf_43 : decode cX6_moverOf 43 = .ok (.goto (-18), 3) := by decide +kernel
theorem dX6_moverOf_46 : decode cX6_moverOf 46 = .ok (.aload_n 0, 1) := by decide +kernel
theorem dX6_moverOf_47 : decode cX6_moverOf 47 = .ok (.getfield 33, 3) := by decide +kernel
theorem dX6_moverOf_50 : decode cX6_moverOf 50 = .ok (.iload 4, 2) := by decide +kernel
theorem dX6_moverOf_52 : decode cX6_moverOf 52 = .ok (.iaload, 1) := by decide +kernel
theorem dX6_moverOf_53 : decode cX6_moverOf 53 = .ok (.ireturn, 1) := by decide +kernel
theorem dX6_note_0 : decode cX6_note 0 = .ok (.iload_n 1, 1) := by decide +kernel
theorem dX6_note_1 : decode cX6_note 1 = .ok (.bipush (-2), 2) := by decide +kernel
theorem dX6_note_3 : decode cX6_note 3 = .ok (.if_icmp .ne 8, 3) := by decide +kernel
theorem dX6_note_6 : decode cX6_note 6 = .ok (.aload_n 0, 1) := by decide +kernel
theorem dX6_note_7 : decode cX6_note 7 = .ok (.iconst 0, 1) := by decide +kernel
theorem dX6_note_8 : decode cX6_note 8 = .ok (.putfield 45, 3) := by decide +kernel
theorem dX6_note_11 : decode cX6_note 11 = .ok (.iload_n 1, 1) := by decide +kernel
theorem dX6_note_12 : decode cX6_note 12 = .ok (.ifCond .lt 10, 3) := by decide +kernel
theorem dX6_note_15 : decode cX6_note 15 = .ok (.iload_n 1, 1) := by decide +kernel
theorem dX6_note_16 : decode cX6_note 16 = .ok (.sipush 600, 3) := by decide +kernel
theorem dX6_note_19 : decode cX6_note 19 = .ok (.if_icmp .lt 4, 3) := by decide +kernel
theorem dX6_note_22 : decode cX6_note 22 = .ok (.return_, 1) := by decide +kernel
theorem dX6_note_23 : decode cX6_note 23 = .ok (.aload_n 0, 1) := by decide +kernel
theorem dX6_note_24 : decode cX6_note 24 = .ok (.getfield 29, 3) := by decide +kernel
theorem dX6_note_27 : decode cX6_note 27 = .ok (.iload_n 1, 1) := by decide +kernel
theorem dX6_note_28 : decode cX6_note 28 = .ok (.iload_n 2, 1) := by decide +kernel
theorem dX6_note_29 : decode cX6_note 29 = .ok (.iastore, 1) := by decide +kernel
theorem dX6_note_30 : decode cX6_note 30 = .ok (.aload_n 0, 1) := by decide +kernel
theorem dX6_note_31 : decode cX6_note 31 = .ok (.getfield 33, 3) := by decide +kernel
theorem dX6_note_34 : decode cX6_note 34 = .ok (.iload_n 1, 1) := by decide +kernel
theorem dX6_note_35 : decode cX6_note 35 = .ok (.iload_n 3, 1) := by decide +kernel
theorem dX6_note_36 : decode cX6_note 36 = .ok (.iastore, 1) := by decide +kernel
theorem dX6_note_37 : decode cX6_note 37 = .ok (.aload_n 0, 1) := by decide +kernel
theorem dX6_note_38 : decode cX6_note 38 = .ok (.getfield 36, 3) := by decide +kernel
theorem dX6_note_41 : decode cX6_note 41 = .ok (.iload_n 1, 1) := by decide +kernel
theorem dX6_note_42 : decode cX6_note 42 = .ok (.iload_n 3, 1) := by decide +kernel
theorem dX6_note_43 : decode cX6_note 43 = .ok (.iconst (-1), 1) := by decide +kernel
theorem dX6_note_44 : decode cX6_note 44 = .ok (.if_icmp .ne 7, 3) := by decide +kernel
theorem dX6_note_47 : decode cX6_note 47 = .ok (.iconst 0, 1) := by decide +kernel
theorem dX6_note_48 : decode cX6_note 48 = .ok (.goto 11, 3) := by decide +kernel
theorem dX6_note_51 : decode cX6_note 51 = .ok (.aload_n 0, 1) := by decide +kernel
theorem dX6_note_52 : decode cX6_note 52 = .ok (.getfield 36, 3) := by decide +kernel
theorem dX6_note_55 : decode cX6_note 55 = .ok (.iload_n 2, 1) := by decide +kernel
theorem dX6_note_56 : decode cX6_note 56 = .ok (.iaload, 1) := by decide +kernel
theorem dX6_note_57 : decode cX6_note 57 = .ok (.iconst 1, 1) := by decide +kernel
theorem dX6_note_58 : decode cX6_note 58 = .ok (.iadd, 1) := by decide +kernel
theorem dX6_note_59 : decode cX6_note 59 = .ok (.iastore, 1) := by decide +kernel
theorem dX6_note_60 : decode cX6_note 60 = .ok (.aload_n 0, 1) := by decide +kernel
theorem dX6_note_61 : decode cX6_note 61 = .ok (.getfield 18, 3) := by decide +kernel
theorem dX6_note_64 : decode cX6_note 64 = .ok (.invokevirtual 108, 3) := by decide +kernel
theorem dX6_note_67 : decode cX6_note 67 = .ok (.ifCond .eq 33, 3) := by decide +kernel
theorem dX6_note_70 : decode cX6_note 70 = .ok (.aload_n 0, 1) := by decide +kernel
theorem dX6_note_71 : decode cX6_note 71 = .ok (.dup, 1) := by decide +kernel
theorem dX6_note_72 : decode cX6_note 72 = .ok (.getfield 58, 3) := by decide +kernel
theorem dX6_note_75 : decode cX6_note 75 = .ok (.iconst 1, 1) := by decide +kernel
theorem dX6_note_76 : decode cX6_note 76 = .ok (.iadd, 1) := by decide +kernel
theorem dX6_note_77 : decode cX6_note 77 = .ok (.putfield 58, 3) := by decide +kernel
theorem dX6_note_80 : decode cX6_note 80 = .ok (.aload_n 0, 1) := by decide +kernel
theorem dX6_note_81 : decode cX6_note 81 = .ok (.aload_n 0, 1) := by decide +kernel
theorem dX6_note_82 : decode cX6_note 82 = .ok (.getfield 51, 3) := by decide +kernel
theorem dX6_note_85 : decode cX6_note 85 = .ok (.iconst (-1), 1) := by decide +kernel
theorem dX6_note_86 : decode cX6_note 86 = .ok (.if_icmp .ne 7, 3) := by decide +kernel
theorem dX6_note_89 : decode cX6_note 89 = .ok (.iload_n 1, 1) := by decide +kernel
theorem dX6_note_90 : decode cX6_note 90 = .ok (.goto 7, 3) := by decide +kernel
theorem dX6_note_93 : decode cX6_note 93 = .ok (.aload_n 0, 1) := by decide +kernel
theorem dX6_note_94 : decode cX6_note 94 = .ok (.getfield 51, 3) := by decide +kernel
theorem dX6_note_97 : decode cX6_note 97 = .ok (.putfield 51, 3) := by decide +kernel
theorem dX6_note_100 : decode cX6_note 100 = .ok (.aload_n 0, 1) := by decide +kernel
theorem dX6_note_101 : decode cX6_note 101 = .ok (.getfield 55, 3) := by decide +kernel
theorem dX6_note_104 : decode cX6_note 104 = .ok (.iconst (-1), 1) := by decide +kernel
theorem dX6_note_105 : decode cX6_note 105 = .ok (.if_icmp .ne 23, 3) := by decide +kernel
theorem dX6_note_108 : decode cX6_note 108 = .ok (.aload 4, 2) := by decide +kernel
theorem dX6_note_110 : decode cX6_note 110 = .ok (.aload_n 0, 1) := by decide +kernel
theorem dX6_note_111 : decode cX6_note 111 = .ok (.getfield 18, 3) := by decide +kernel
theorem dX6_note_114 : decode cX6_note 114 = .ok (.getfield 112, 3) := by decide +kernel
theorem dX6_note_117 : decode cX6_note 117 = .ok (.invokevirtual 115, 3) := by decide +kernel
theorem dX6_note_120 : decode cX6_note 120 = .ok (.ifCond .ne 8, 3) := by decide +kernel
theorem dX6_note_123 : decode cX6_note 123 = .ok (.aload_n 0, 1) := by decide +kernel
theorem dX6_note_124 : decode cX6_note 124 = .ok (.iload_n 1, 1) := by decide +kernel
theorem dX6_note_125 : decode cX6_note 125 = .ok (.putfield 55, 3) := by decide +kernel
theorem dX6_note_128 : decode cX6_note 128 = .ok (.aload_n 0, 1) := by decide +kernel
theorem dX6_note_129 : decode cX6_note 129 = .ok (.getfield 18, 3) := by decide +kernel
theorem dX6_note_132 : decode cX6_note 132 = .ok (.invokevirtual 121, 3) := by decide +kernel
theorem dX6_note_135 : decode cX6_note 135 = .ok (.ifCond .eq 17, 3) := by decide +kernel
theorem dX6_note_138 : decode cX6_note 138 = .ok (.aload_n 0, 1) := by decide +kernel
theorem dX6_note_139 : decode cX6_note 139 = .ok (.dup, 1) := by decide +kernel
theorem dX6_note_140 : decode cX6_note 140 = .ok (.getfield 61, 3) := by decide +kernel
theorem dX6_note_143 : decode cX6_note 143 = .ok (.iconst 1, 1) := by decide +kernel
theorem dX6_note_144 : decode cX6_note 144 = .ok (.iadd, 1) := by decide +kernel
theorem dX6_note_145 : decode cX6_note 145 = .ok (.putfield 61, 3) := by decide +kernel
theorem dX6_note_148 : decode cX6_note 148 = .ok (.aload_n 0, 1) := by decide +kernel
theorem dX6_note_149 : decode cX6_note 149 = .ok (.invokevirtual 124, 3) := by decide +kernel
theorem dX6_note_152 : decode cX6_note 152 = .ok (.aload_n 0, 1) := by decide +kernel
theorem dX6_note_153 : decode cX6_note 153 = .ok (.invokevirtual 127, 3) := by decide +kernel
theorem dX6_note_156 : decode cX6_note 156 = .ok (.return_, 1) := by decide +kernel
theorem dX6_noteMonitors_0 : decode cX6_noteMonitors 0 = .ok (.iconst 0, 1) := by decide +kernel
theorem dX6_noteMonitors_1 : decode cX6_noteMonitors 1 = .ok (.istore_n 1, 1) := by decide +kernel
theorem dX6_noteMonitors_2 : decode cX6_noteMonitors 2 = .ok (.iload_n 1, 1) := by decide +kernel
theorem dX6_noteMonitors_3 : decode cX6_noteMonitors 3 = .ok (.iconst 3, 1) := by decide +kernel
theorem dX6_noteMonitors_4 : decode cX6_noteMonitors 4 = .ok (.if_icmp .ge 38, 3) := by decide +kernel
theorem dX6_noteMonitors_7 : decode cX6_noteMonitors 7 = .ok (.aload_n 0, 1) := by decide +kernel
theorem dX6_noteMonitors_8 : decode cX6_noteMonitors 8 = .ok (.aload_n 0, 1) := by decide +kernel
theorem dX6_noteMonitors_9 : decode cX6_noteMonitors 9 = .ok (.getfield 48, 3) := by decide +kernel
theorem dX6_noteMonitors_12 : decode cX6_noteMonitors 12 = .ok (.ifCond .ne 16, 3) := by decide +kernel
theorem dX6_noteMonitors_15 : decode cX6_noteMonitors 15 = .ok (.aload_n 0, 1) := by decide +kernel
theorem dX6_noteMonitors_16 : decode cX6_noteMonitors 16 = .ok (.getfield 18, 3) := by decide +kernel
theorem dX6_noteMonitors_19 : decode cX6_noteMonitors 19 = .ok (.getfield 134, 3) := by decide +kernel
theorem dX6_noteMonitors_22 : decode cX6_noteMonitors 22 = .ok (.iload_n 1, 1) := by decide +kernel
theorem dX6_noteMonitors_23 : decode cX6_noteMonitors 23 = .ok (.iaload, 1) := by decide +kernel
theorem dX6_noteMonitors_24 : decode cX6_noteMonitors 24 = .ok (.iconst 2, 1) := by decide +kernel
theorem dX6_noteMonitors_25 : decode cX6_noteMonitors 25 = .ok (.if_icmp .lt 7, 3) := by decide +kernel
theorem dX6_noteMonitors_28 : decode cX6_noteMonitors 28 = .ok (.iconst 1, 1) := by decide +kernel
theorem dX6_noteMonitors_29 : decode cX6_noteMonitors 29 = .ok (.goto 4, 3) := by decide +kernel
theorem dX6_noteMonitors_32 : decode cX6_noteMonitors 32 = .ok (.iconst 0, 1) := by decide +kernel
theorem dX6_noteMonitors_33 : decode cX6_noteMonitors 33 = .ok (.putfield 48, 3) := by decide +kernel
theorem dX6_noteMonitors_36 : decode cX6_noteMonitors 36 = .ok (.iinc 1 1, 3) := by decide +kernel
theorem dX6_noteMonitors_39 : decode cX6_noteMonitors 39 = .ok (.goto (-37), 3) := by decide +kernel
theorem dX6_noteMonitors_42 : decode cX6_noteMonitors 42 = .ok (.iconst 0, 1) := by decide +kernel
theorem dX6_noteMonitors_43 : decode cX6_noteMonitors 43 = .ok (.istore_n 1, 1) := by decide +kernel
theorem dX6_noteMonitors_44 : decode cX6_noteMonitors 44 = .ok (.iload_n 1, 1) := by decide +kernel
theorem dX6_noteMonitors_45 : decode cX6_noteMonitors 45 = .ok (.aload_n 0, 1) := by decide +kernel
theorem dX6_noteMonitors_46 : decode cX6_noteMonitors 46 = .ok (.getfield 18, 3) := by decide +kernel
theorem dX6_noteMonitors_49 : decode cX6_noteMonitors 49 = .ok (.getfield 82, 3) := by decide +kernel
theorem dX6_noteMonitors_52 : decode cX6_noteMonitors 52 = .ok (.if_icmp .ge 61, 3) := by decide +kernel
theorem dX6_noteMonitors_55 : decode cX6_noteMonitors 55 = .ok (.aload_n 0, 1) := by decide +kernel
theorem dX6_noteMonitors_56 : decode cX6_noteMonitors 56 = .ok (.getfield 18, 3) := by decide +kernel
theorem dX6_noteMonitors_59 : decode cX6_noteMonitors 59 = .ok (.iload_n 1, 1) := by decide +kernel
theorem dX6_noteMonitors_60 : decode cX6_noteMonitors 60 = .ok (.invokevirtual 137, 3) := by decide +kernel
theorem dX6_noteMonitors_63 : decode cX6_noteMonitors 63 = .ok (.istore_n 2, 1) := by decide +kernel
theorem dX6_noteMonitors_64 : decode cX6_noteMonitors 64 = .ok (.iconst 0, 1) := by decide +kernel
theorem dX6_noteMonitors_65 : decode cX6_noteMonitors 65 = .ok (.istore_n 3, 1) := by decide +kernel
theorem dX6_noteMonitors_66 : decode cX6_noteMonitors 66 = .ok (.iload_n 3, 1) := by decide +kernel
theorem dX6_noteMonitors_67 : decode cX6_noteMonitors 67 = .ok (.iconst 3, 1) := by decide +kernel
theorem dX6_noteMonitors_68 : decode cX6_noteMonitors 68 = .ok (.if_icmp .ge 39, 3) := by decide +kernel
theorem dX6_noteMonitors_71 : decode cX6_noteMonitors 71 = .ok (.iload_n 2, 1) := by decide +kernel
theorem dX6_noteMonitors_72 : decode cX6_noteMonitors 72 = .ok (.iconst (-1), 1) := by decide +kernel
theorem dX6_noteMonitors_73 : decode cX6_noteMonitors 73 = .ok (.if_icmp .eq 34, 3) := by decide +kernel
theorem dX6_noteMonitors_76 : decode cX6_noteMonitors 76 = .ok (.aload_n 0, 1) := by decide +kernel
theorem dX6_noteMonitors_77 : decode cX6_noteMonitors 77 = .ok (.getfield 18, 3) := by decide +kernel
theorem dX6_noteMonitors_80 : decode cX6_noteMonitors 80 = .ok (.getfield 141, 3) := by decide +kernel
theorem dX6_noteMonitors_83 : decode cX6_noteMonitors 83 = .ok (.iload_n 3, 1) := by decide +kernel
theorem dX6_noteMonitors_84 : decode cX6_noteMonitors 84 = .ok (.iaload, 1) := by decide +kernel
theorem dX6_noteMonitors_85 : decode cX6_noteMonitors 85 = .ok (.iload_n 1, 1) := by decide +kernel
theorem dX6_noteMonitors_86 : decode cX6_noteMonitors 86 = .ok (.if_icmp .ne 15, 3) := by decide +kernel
theorem dX6_noteMonitors_89 : decode cX6_noteMonitors 89 = .ok (.aload_n 0, 1) := by decide +kernel
theorem dX6_noteMonitors_90 : decode cX6_noteMonitors 90 = .ok (.getfield 42, 3) := by decide +kernel
theorem dX6_noteMonitors_93 : decode cX6_noteMonitors 93 = .ok (.iload_n 3, 1) := by decide +kernel
theorem dX6_noteMonitors_94 : decode cX6_noteMonitors 94 = .ok (.dup2, 1) := by decide +kernel
theorem dX6_noteMonitors_95 : decode cX6_noteMonitors 95 = .ok (.iaload, 1) := by decide +kernel
theorem dX6_noteMonitors_96 : decode cX6_noteMonitors 96 = .ok (.iconst 1, 1) := by decide +kernel
theorem dX6_noteMonitors_97 : decode cX6_noteMonitors 97 = .ok (.iload_n 2, 1) := by decide +kernel
theorem dX6_noteMonitors_98 : decode cX6_noteMonitors 98 = .ok (.ishl, 1) := by decide +kernel
theorem dX6_noteMonitors_99 : decode cX6_noteMonitors 99 = .ok (.ior, 1) := by decide +kernel
theorem dX6_noteMonitors_100 : decode cX6_noteMonitors 100 = .ok (.iastore, 1) := by decide +kernel
theorem dX6_noteMonitors_101 : decode cX6_noteMonitors 101 = .ok (.iinc 3 1, 3) := by decide +kernel
theorem dX6_noteMonitors_104 : decode cX6_noteMonitors 104 = .ok (.goto (-38), 3) := by decide +kernel
theorem dX6_noteMonitors_107 : decode cX6_noteMonitors 107 = .ok (.iinc 1 1, 3) := by decide +kernel
theorem dX6_noteMonitors_110 : decode cX6_noteMonitors 110 = .ok (.goto (-66), 3) := by decide +kernel
theorem dX6_noteMonitors_113 : decode cX6_noteMonitors 113 = .ok (.return_, 1) := by decide +kernel
theorem dX6_noteOutcome_0 : decode cX6_noteOutcome 0 = .ok (.aload_n 0, 1) := by decide +kernel
theorem dX6_noteOutcome_1 : decode cX6_noteOutcome 1 = .ok (.getfield 18, 3) := by decide +kernel
theorem dX6_noteOutcome_4 : decode cX6_noteOutcome 4 = .ok (.getfield 112, 3) := by decide +kernel
theorem dX6_noteOutcome_7 : decode cX6_noteOutcome 7 = .ok (.invokestatic 130, 3) := by decide +kernel
theorem dX6_noteOutcome_10 : decode cX6_noteOutcome 10 = .ok (.istore_n 1, 1) := by decide +kernel
theorem dX6_noteOutcome_11 : decode cX6_noteOutcome 11 = .ok (.iconst 0, 1) := by decide +kernel
theorem dX6_noteOutcome_12 : decode cX6_noteOutcome 12 = .ok (.istore_n 2, 1) := by decide +kernel
theorem dX6_noteOutcome_13 : decode cX6_noteOutcome 13 = .ok (.iload_n 2, 1) := by decide +kernel
theorem dX6_noteOutcome_14 : decode cX6_noteOutcome 14 = .ok (.aload_n 0, 1) := by decide +kernel
theorem dX6_noteOutcome_15 : decode cX6_noteOutcome 15 = .ok (.getfield 64, 3) := by decide +kernel
theorem dX6_noteOutcome_18 : decode cX6_noteOutcome 18 = .ok (.if_icmp .ge 20, 3) := by decide +kernel
theorem dX6_noteOutcome_21 : decode cX6_noteOutcome 21 = .ok (.aload_n 0, 1) := by decide +kernel
theorem dX6_noteOutcome_22 : decode cX6_noteOutcome 22 = .ok (.getfield 39, 3) := by decide +kernel
theorem dX6_noteOutcome_25 : decode cX6_noteOutcome 25 = .ok (.iload_n 2, 1) := by decide +kernel
theorem dX6_noteOutcome_26 : decode cX6_noteOutcome 26 = .ok (.iaload, 1) := by decide +kernel
theorem dX6_noteOutcome_27 : decode cX6_noteOutcome 27 = .ok (.iload_n 1, 1) := by decide +kernel
theorem dX6_noteOutcome_28 : decode cX6_noteOutcome 28 = .ok (.if_icmp .ne 4, 3) := by decide +kernel
theorem dX6_noteOutcome_31 : decode cX6_noteOutcome 31 = .ok (.return_, 1) := by decide +kernel
theorem dX6_noteOutcome_32 : decode cX6_noteOutcome 32 = .ok (.iinc 2 1, 3) := by decide +kernel
theorem dX6_noteOutcome_35 : decode cX6_noteOutcome 35 = .ok (.goto (-22), 3) := by decide +kernel
theorem dX6_noteOutcome_38 : decode cX6_noteOutcome 38 = .ok (.aload_n 0, 1) := by decide +kernel
theorem dX6_noteOutcome_39 : decode cX6_noteOutcome 39 = .ok (.getfield 64, 3) := by decide +kernel
theorem dX6_noteOutcome_42 : decode cX6_noteOutcome 42 = .ok (.sipush 600, 3) := by decide +kernel
theorem dX6_noteOutcome_45 : decode cX6_noteOutcome 45 = .ok (.if_icmp .ge 23, 3) := by decide +kernel
theorem dX6_noteOutcome_48 : decode cX6_noteOutcome 48 = .ok (.aload_n 0, 1) := by decide +kernel
theorem dX6_noteOutcome_49 : decode cX6_noteOutcome 49 = .ok (.getfield 39, 3) := by decide +kernel
theorem dX6_noteOutcome_52 : decode cX6_noteOutcome 52 = .ok (.aload_n 0, 1) := by decide +kernel
theorem dX6_noteOutcome_53 : decode cX6_noteOutcome 53 = .ok (.getfield 64, 3) := by decide +kernel
theorem dX6_noteOutcome_56 : decode cX6_noteOutcome 56 = .ok (.iload_n 1, 1) := by decide +kernel
theorem dX6_noteOutcome_57 : decode cX6_noteOutcome 57 = .ok (.iastore, 1) := by decide +kernel
theorem dX6_noteOutcome_58 : decode cX6_noteOutcome 58 = .ok (.aload_n 0, 1) := by decide +kernel
theorem dX6_noteOutcome_59 : decode cX6_noteOutcome 59 = .ok (.dup, 1) := by decide +kernel
theorem dX6_noteOutcome_60 : decode cX6_noteOutcome 60 = .ok (.getfield 64, 3) := by decide +kernel
theorem dX6_noteOutcome_63 : decode cX6_noteOutcome 63 = .ok (.iconst 1, 1) := by decide +kernel
theorem dX6_noteOutcome_64 : decode cX6_noteOutcome 64 = .ok (.iadd, 1) := by decide +kernel
theorem dX6_noteOutcome_65 : decode cX6_noteOutcome 65 = .ok (.putfield 64, 3) := by decide +kernel
theorem dX6_noteOutcome_68 : decode cX6_noteOutcome 68 = .ok (.return_, 1) := by decide +kernel
theorem dX7_empty_0 : decode cX7_empty 0 = .ok (.aload_n 0, 1) := by decide +kernel
theorem dX7_empty_1 : decode cX7_empty 1 = .ok (.iconst 0, 1) := by decide +kernel
theorem dX7_empty_2 : decode cX7_empty 2 = .ok (.putfield 9, 3) := by decide +kernel
theorem dX7_empty_5 : decode cX7_empty 5 = .ok (.aload_n 0, 1) := by decide +kernel
theorem dX7_empty_6 : decode cX7_empty 6 = .ok (.getfield 22, 3) := by decide +kernel
theorem dX7_empty_9 : decode cX7_empty 9 = .ok (.iconst 0, 1) := by decide +kernel
theorem dX7_empty_10 : decode cX7_empty 10 = .ok (.invokestatic 25, 3) := by decide +kernel
theorem dX7_empty_13 : decode cX7_empty 13 = .ok (.return_, 1) := by decide +kernel
theorem dX7_firstSlot_0 : decode cX7_firstSlot 0 = .ok (.iconst 0, 1) := by decide +kernel
theorem dX7_firstSlot_1 : decode cX7_firstSlot 1 = .ok (.istore_n 1, 1) := by decide +kernel
theorem dX7_firstSlot_2 : decode cX7_firstSlot 2 = .ok (.iconst 0, 1) := by decide +kernel
theorem dX7_firstSlot_3 : decode cX7_firstSlot 3 = .ok (.istore_n 2, 1) := by decide +kernel
theorem dX7_firstSlot_4 : decode cX7_firstSlot 4 = .ok (.iload_n 2, 1) := by decide +kernel
theorem dX7_firstSlot_5 : decode cX7_firstSlot 5 = .ok (.bipush 6, 2) := by decide +kernel
theorem dX7_firstSlot_7 : decode cX7_firstSlot 7 = .ok (.if_icmp .ge 28, 3) := by decide +kernel
theorem dX7_firstSlot_10 : decode cX7_firstSlot 10 = .ok (.iload_n 1, 1) := by decide +kernel
theorem dX7_firstSlot_11 : decode cX7_firstSlot 11 = .ok (.aload_n 0, 1) := by decide +kernel
theorem dX7_firstSlot_12 : decode cX7_firstSlot 12 = .ok (.getfield 19, 3) := by decide +kernel
theorem dX7_firstSlot_15 : decode cX7_firstSlot 15 = .ok (.iload_n 2, 1) := by decide +kernel
theorem dX7_firstSlot_16 : decode cX7_firstSlot 16 = .ok (.iaload, 1) := by decide +kernel
theorem dX7_firstSlot_17 : decode cX7_firstSlot 17 = .ok (.ixor, 1) := by decide +kernel
theorem dX7_firstSlot_18 : decode cX7_firstSlot 18 = .ok (.ldc 49, 2) := by decide +kernel
theorem dX7_firstSlot_20 : decode cX7_firstSlot 20 = .ok (.imul, 1) := by decide +kernel
theorem dX7_firstSlot_21 : decode cX7_firstSlot 21 = .ok (.istore_n 1, 1) := by decide +kernel
theorem dX7_firstSlot_22 : decode cX7_firstSlot 22 = .ok (.iload_n 1, 1) := by decide +kernel
theorem dX7_firstSlot_23 : decode cX7_firstSlot 23 = .ok (.iload_n 1, 1) := by decide +kernel
theorem dX7_firstSlot_24 : decode cX7_firstSlot 24 = .ok (.bipush 15, 2) := by decide +kernel
theorem dX7_firstSlot_26 : decode cX7_firstSlot 26 = .ok (.iushr, 1) := by decide +kernel
theorem dX7_firstSlot_27 : decode cX7_firstSlot 27 = .ok (.ixor, 1) := by decide +kernel
theorem dX7_firstSlot_28 : decode cX7_firstSlot 28 = .ok (.istore_n 1, 1) := by decide +kernel
theorem dX7_firstSlot_29 : decode cX7_firstSlot 29 = .ok (.iinc 2 1, 3) := by decide +kernel
theorem dX7_firstSlot_32 : decode cX7_firstSlot 32 = .ok (.goto (-28), 3) := by decide +kernel
theorem dX7_firstSlot_35 : decode cX7_firstSlot 35 = .ok (.iload_n 1, 1) := by decide +kernel
theorem dX7_firstSlot_36 : decode cX7_firstSlot 36 = .ok (.sipush 2047, 3) := by decide +kernel
theorem dX7_firstSlot_39 : decode cX7_firstSlot 39 = .ok (.iand, 1) := by decide +kernel
theorem dX7_firstSlot_40 : decode cX7_firstSlot 40 = .ok (.ireturn, 1) := by decide +kernel
theorem dX7_init_0 : decode cX7_init 0 = .ok (.aload_n 0, 1) := by decide +kernel
theorem dX7_init_1 : decode cX7_init 1 = .ok (.invokespecial 3, 3) := by decide +kernel
theorem dX7_init_4 : decode cX7_init 4 = .ok (.aload_n 0, 1) := by decide +kernel
theorem dX7_init_5 : decode cX7_init 5 = .ok (.iconst 0, 1) := by decide +kernel
theorem dX7_init_6 : decode cX7_init 6 = .ok (.putfield 9, 3) := by decide +kernel
theorem dX7_init_9 : decode cX7_init 9 = .ok (.aload_n 0, 1) := by decide +kernel
theorem dX7_init_10 : decode cX7_init 10 = .ok (.sipush 3600, 3) := by decide +kernel
theorem dX7_init_13 : decode cX7_init 13 = .ok (.newarray .int, 2) := by decide +kernel
theorem dX7_init_15 : decode cX7_init 15 = .ok (.putfield 15, 3) := by decide +kernel
theorem dX7_init_18 : decode cX7_init 18 = .ok (.aload_n 0, 1) := by decide +kernel
theorem dX7_init_19 : decode cX7_init 19 = .ok (.bipush 6, 2) := by decide +kernel
theorem dX7_init_21 : decode cX7_init 21 = .ok (.newarray .int, 2) := by decide +kernel
theorem dX7_init_23 : decode cX7_init 23 = .ok (.putfield 19, 3) := by decide +kernel
theorem dX7_init_26 : decode cX7_init 26 = .ok (.aload_n 0, 1) := by decide +kernel
theorem dX7_init_27 : decode cX7_init 27 = .ok (.sipush 2048, 3) := by decide +kernel
theorem dX7_init_30 : decode cX7_init 30 = .ok (.newarray .int, 2) := by decide +kernel
theorem dX7_init_32 : decode cX7_init 32 = .ok (.putfield 22, 3) := by decide +kernel
theorem dX7_init_35 : decode cX7_init 35 = .ok (.return_, 1) := by decide +kernel
theorem dX7_isDraft_0 : decode cX7_isDraft 0 = .ok (.iconst 0, 1) := by decide +kernel
theorem dX7_isDraft_1 : decode cX7_isDraft 1 = .ok (.istore_n 2, 1) := by decide +kernel
theorem dX7_isDraft_2 : decode cX7_isDraft 2 = .ok (.iload_n 2, 1) := by decide +kernel
theorem dX7_isDraft_3 : decode cX7_isDraft 3 = .ok (.bipush 6, 2) := by decide +kernel
theorem dX7_isDraft_5 : decode cX7_isDraft 5 = .ok (.if_icmp .ge 31, 3) := by decide +kernel
theorem dX7_isDraft_8 : decode cX7_isDraft 8 = .ok (.aload_n 0, 1) := by decide +kernel
theorem dX7_isDraft_9 : decode cX7_isDraft 9 = .ok (.getfield 15, 3) := by decide +kernel
theorem dX7_isDraft_12 : decode cX7_isDraft 12 = .ok (.iload_n 1, 1) := by decide +kernel
theorem dX7_isDraft_13 : decode cX7_isDraft 13 = .ok (.bipush 6, 2) := by decide +kernel
theorem dX7_isDraft_15 : decode cX7_isDraft 15 = .ok (.imul, 1) := by decide +kernel
theorem dX7_isDraft_16 : decode cX7_isDraft 16 = .ok (.iload_n 2, 1) := by decide +kernel
theorem dX7_isDraft_17 : decode cX7_isDraft 17 = .ok (.iadd, 1) := by decide +kernel
theorem dX7_isDraft_18 : decode cX7_isDraft 18 = .ok (.iaload, 1) := by decide +kernel
theorem dX7_isDraft_19 : decode cX7_isDraft 19 = .ok (.aload_n 0, 1) := by decide +kernel
theorem dX7_isDraft_20 : decode cX7_isDraft 20 = .ok (.getfield 19, 3) := by decide +kernel
theorem dX7_isDraft_23 : decode cX7_isDraft 23 = .ok (.iload_n 2, 1) := by decide +kernel
theorem dX7_isDraft_24 : decode cX7_isDraft 24 = .ok (.iaload, 1) := by decide +kernel
theorem dX7_isDraft_25 : decode cX7_isDraft 25 = .ok (.if_icmp .eq 5, 3) := by decide +kernel
theorem dX7_isDraft_28 : decode cX7_isDraft 28 = .ok (.iconst 0, 1) := by decide +kernel
theorem dX7_isDraft_29 : decode cX7_isDraft 29 = .ok (.ireturn, 1) := by decide +kernel
theorem dX7_isDraft_30 : decode cX7_isDraft 30 = .ok (.iinc 2 1, 3) := by decide +kernel
theorem dX7_isDraft_33 : decode cX7_isDraft 33 = .ok (.goto (-31), 3) := by decide +kernel
theorem dX7_isDraft_36 : decode cX7_isDraft 36 = .ok (.iconst 1, 1) := by decide +kernel
theorem dX7_isDraft_37 : decode cX7_isDraft 37 = .ok (.ireturn, 1) := by decide +kernel
theorem dX7_keep_0 : decode cX7_keep 0 = .ok (.aload_n 0, 1) := by decide +kernel
theorem dX7_keep_1 : decode cX7_keep 1 = .ok (.aload_n 1, 1) := by decide +kernel
theorem dX7_keep_2 : decode cX7_keep 2 = .ok (.invokevirtual 31, 3) := by decide +kernel
theorem dX7_keep_5 : decode cX7_keep 5 = .ok (.aload_n 0, 1) := by decide +kernel
theorem dX7_keep_6 : decode cX7_keep 6 = .ok (.invokevirtual 35, 3) := by decide +kernel
theorem dX7_keep_9 : decode cX7_keep 9 = .ok (.istore_n 2, 1) := by decide +kernel
theorem dX7_keep_10 : decode cX7_keep 10 = .ok (.iconst 0, 1) := by decide +kernel
theorem dX7_keep_11 : decode cX7_keep 11 = .ok (.istore_n 3, 1) := by decide +kernel
theorem dX7_keep_12 : decode cX7_keep 12 = .ok (.iload_n 3, 1) := by decide +kernel
theorem dX7_keep_13 : decode cX7_keep 13 = .ok (.sipush 2048, 3) := by decide +kernel
theorem dX7_keep_16 : decode cX7_keep 16 = .ok (.if_icmp .ge 43, 3) := by decide +kernel
theorem dX7_keep_19 : decode cX7_keep 19 = .ok (.aload_n 0, 1) := by decide +kernel
theorem dX7_keep_20 : decode cX7_keep 20 = .ok (.getfield 22, 3) := by decide +kernel
theorem dX7_keep_23 : decode cX7_keep 23 = .ok (.iload_n 2, 1) := by decide +kernel
theorem dX7_keep_24 : decode cX7_keep 24 = .ok (.iaload, 1) := by decide +kernel
theorem dX7_keep_25 : decode cX7_keep 25 = .ok (.ifCond .eq 34, 3) := by decide +kernel
theorem dX7_keep_28 : decode cX7_keep 28 = .ok (.aload_n 0, 1) := by decide +kernel
theorem dX7_keep_29 : decode cX7_keep 29 = .ok (.aload_n 0, 1) := by decide +kernel
theorem dX7_keep_30 : decode cX7_keep 30 = .ok (.getfield 22, 3) := by decide +kernel
theorem dX7_keep_33 : decode cX7_keep 33 = .ok (.iload_n 2, 1) := by decide +kernel
theorem dX7_keep_34 : decode cX7_keep 34 = .ok (.iaload, 1) := by decide +kernel
theorem dX7_keep_35 : decode cX7_keep 35 = .ok (.iconst 1, 1) := by decide +kernel
theorem dX7_keep_36 : decode cX7_keep 36 = .ok (.isub, 1) := by decide +kernel
theorem dX7_keep_37 : decode cX7_keep 37 = .ok (.invokevirtual 39, 3) := by decide +kernel
theorem dX7_keep_40 : decode cX7_keep 40 = .ok (.ifCond .eq 5, 3) := by decide +kernel
theorem dX7_keep_43 : decode cX7_keep 43 = .ok (.iconst (-1), 1) := by decide +kernel
theorem dX7_keep_44 : decode cX7_keep 44 = .ok (.ireturn, 1) := by decide +kernel
theorem dX7_keep_45 : decode cX7_keep 45 = .ok (.iload_n 2, 1) := by decide +kernel
theorem dX7_keep_46 : decode cX7_keep 46 = .ok (.iconst 1, 1) := by decide +kernel
theorem dX7_keep_47 : decode cX7_keep 47 = .ok (.iadd, 1) := by decide +kernel
theorem dX7_keep_48 : decode cX7_keep 48 = .ok (.sipush 2047, 3) := by decide +kernel
theorem dX7_keep_51 : decode cX7_keep 51 = .ok (.iand, 1) := by decide +kernel
theorem dX7_keep_52 : decode cX7_keep 52 = .ok (.istore_n 2, 1) := by decide +kernel
theorem dX7_keep_53 : decode cX7_keep 53 = .ok (.iinc 3 1, 3) := by decide +kernel
theorem dX7_keep_56 : decode cX7_keep 56 = .ok (.goto (-44), 3) := by decide +kernel
theorem dX7_keep_59 : decode cX7_keep 59 = .ok (.aload_n 0, 1) := by decide +kernel
theorem dX7_keep_60 : decode cX7_keep 60 = .ok (.getfield 9, 3) := by decide +kernel
theorem dX7_keep_63 : decode cX7_keep 63 = .ok (.sipush 600, 3) := by decide +kernel
theorem dX7_keep_66 : decode cX7_keep 66 = .ok (.if_icmp .lt 6, 3) := by decide +kernel
theorem dX7_keep_69 : decode cX7_keep 69 = .ok (.bipush (-2), 2) := by decide +kernel
theorem dX7_keep_71 : decode cX7_keep 71 = .ok (.ireturn, 1) := by decide +kernel
theorem dX7_keep_72 : decode cX7_keep 72 = .ok (.aload_n 0, 1) := by decide +kernel
theorem dX7_keep_73 : decode cX7_keep 73 = .ok (.getfield 19, 3) := by decide +kernel
theorem dX7_keep_76 : decode cX7_keep 76 = .ok (.iconst 0, 1) := by decide +kernel
theorem dX7_keep_77 : decode cX7_keep 77 = .ok (.aload_n 0, 1) := by decide +kernel
theorem dX7_keep_78 : decode cX7_keep 78 = .ok (.getfield 15, 3) := by decide +kernel
theorem dX7_keep_81 : decode cX7_keep 81 = .ok (.aload_n 0, 1) := by decide +kernel
theorem dX7_keep_82 : decode cX7_keep 82 = .ok (.getfield 9, 3) := by decide +kernel
theorem dX7_keep_85 : decode cX7_keep 85 = .ok (.bipush 6, 2) := by decide +kernel
theorem dX7_keep_87 : decode cX7_keep 87 = .ok (.imul, 1) := by decide +kernel
theorem dX7_keep_88 : decode cX7_keep 88 = .ok (.bipush 6, 2) := by decide +kernel
theorem dX7_keep_90 : decode cX7_keep 90 = .ok (.invokestatic 43, 3) := by decide +kernel
theorem dX7_keep_93 : decode cX7_keep 93 = .ok (.aload_n 0, 1) := by decide +kernel
theorem dX7_keep_94 : decode cX7_keep 94 = .ok (.dup, 1) := by decide +kernel
theorem dX7_keep_95 : decode cX7_keep 95 = .ok (.getfield 9, 3) := by decide +kernel
theorem dX7_keep_98 : decode cX7_keep 98 = .ok (.iconst 1, 1) := by decide +kernel
theorem dX7_keep_99 : decode cX7_keep 99 = .ok (.iadd, 1) := by decide +kernel
theorem dX7_keep_100 : decode cX7_keep 100 = .ok (.putfield 9, 3) := by decide +kernel
theorem dX7_keep_103 : decode cX7_keep 103 = .ok (.aload_n 0, 1) := by decide +kernel
theorem dX7_keep_104 : decode cX7_keep 104 = .ok (.getfield 22, 3) := by decide +kernel
theorem dX7_keep_107 : decode cX7_keep 107 = .ok (.iload_n 2, 1) := by decide +kernel
theorem dX7_keep_108 : decode cX7_keep 108 = .ok (.aload_n 0, 1) := by decide +kernel
theorem dX7_keep_109 : decode cX7_keep 109 = .ok (.getfield 9, 3) := by decide +kernel
theorem dX7_keep_112 : decode cX7_keep 112 = .ok (.iastore, 1) := by decide +kernel
theorem dX7_keep_113 : decode cX7_keep 113 = .ok (.aload_n 0, 1) := by decide +kernel
theorem dX7_keep_114 : decode cX7_keep 114 = .ok (.getfield 9, 3) := by decide +kernel
theorem dX7_keep_117 : decode cX7_keep 117 = .ok (.iconst 1, 1) := by decide +kernel
theorem dX7_keep_118 : decode cX7_keep 118 = .ok (.isub, 1) := by decide +kernel
theorem dX7_keep_119 : decode cX7_keep 119 = .ok (.ireturn, 1) := by decide +kernel
theorem dX7_pack_0 : decode cX7_pack 0 = .ok (.aload_n 0, 1) := by decide +kernel
theorem dX7_pack_1 : decode cX7_pack 1 = .ok (.getfield 19, 3) := by decide +kernel
theorem dX7_pack_4 : decode cX7_pack 4 = .ok (.iconst 0, 1) := by decide +kernel
theorem dX7_pack_5 : decode cX7_pack 5 = .ok (.aload_n 1, 1) := by decide +kernel
theorem dX7_pack_6 : decode cX7_pack 6 = .ok (.iconst 0, 1) := by decide +kernel
theorem dX7_pack_7 : decode cX7_pack 7 = .ok (.invokestatic 50, 3) := by decide +kernel
theorem dX7_pack_10 : decode cX7_pack 10 = .ok (.aload_n 1, 1) := by decide +kernel
theorem dX7_pack_11 : decode cX7_pack 11 = .ok (.iconst 1, 1) := by decide +kernel
theorem dX7_pack_12 : decode cX7_pack 12 = .ok (.invokestatic 50, 3) := by decide +kernel
theorem dX7_pack_15 : decode cX7_pack 15 = .ok (.bipush 11, 2) := by decide +kernel
theorem dX7_pack_17 : decode cX7_pack 17 = .ok (.ishl, 1) := by decide +kernel
theorem dX7_pack_18 : decode cX7_pack 18 = .ok (.ior, 1) := by decide +kernel
theorem dX7_pack_19 : decode cX7_pack 19 = .ok (.iastore, 1) := by decide +kernel
theorem dX7_pack_20 : decode cX7_pack 20 = .ok (.aload_n 0, 1) := by decide +kernel
theorem dX7_pack_21 : decode cX7_pack 21 = .ok (.getfield 19, 3) := by decide +kernel
theorem dX7_pack_24 : decode cX7_pack 24 = .ok (.iconst 1, 1) := by decide +kernel
theorem dX7_pack_25 : decode cX7_pack 25 = .ok (.aload_n 1, 1) := by decide +kernel
theorem dX7_pack_26 : decode cX7_pack 26 = .ok (.iconst 2, 1) := by decide +kernel
theorem dX7_pack_27 : decode cX7_pack 27 = .ok (.invokestatic 50, 3) := by decide +kernel
theorem dX7_pack_30 : decode cX7_pack 30 = .ok (.aload_n 1, 1) := by decide +kernel
theorem dX7_pack_31 : decode cX7_pack 31 = .ok (.iconst 3, 1) := by decide +kernel
theorem dX7_pack_32 : decode cX7_pack 32 = .ok (.invokestatic 50, 3) := by decide +kernel
theorem dX7_pack_35 : decode cX7_pack 35 = .ok (.bipush 11, 2) := by decide +kernel
theorem dX7_pack_37 : decode cX7_pack 37 = .ok (.ishl, 1) := by decide +kernel
theorem dX7_pack_38 : decode cX7_pack 38 = .ok (.ior, 1) := by decide +kernel
theorem dX7_pack_39 : decode cX7_pack 39 = .ok (.iastore, 1) := by decide +kernel
theorem dX7_pack_40 : decode cX7_pack 40 = .ok (.iconst 0, 1) := by decide +kernel
theorem dX7_pack_41 : decode cX7_pack 41 = .ok (.istore_n 2, 1) := by decide +kernel
theorem dX7_pack_42 : decode cX7_pack 42 = .ok (.iload_n 2, 1) := by decide +kernel
theorem dX7_pack_43 : decode cX7_pack 43 = .ok (.iconst 3, 1) := by decide +kernel
theorem dX7_pack_44 : decode cX7_pack 44 = .ok (.if_icmp .ge 54, 3) := by decide +kernel
theorem dX7_pack_47 : decode cX7_pack 47 = .ok (.aload_n 0, 1) := by decide +kernel
theorem dX7_pack_48 : decode cX7_pack 48 = .ok (.getfield 19, 3) := by decide +kernel
theorem dX7_pack_51 : decode cX7_pack 51 = .ok (.iconst 2, 1) := by decide +kernel
theorem dX7_pack_52 : decode cX7_pack 52 = .ok (.iload_n 2, 1) := by decide +kernel
theorem dX7_pack_53 : decode cX7_pack 53 = .ok (.iadd, 1) := by decide +kernel
theorem dX7_pack_54 : decode cX7_pack 54 = .ok (.aload_n 1, 1) := by decide +kernel
theorem dX7_pack_55 : decode cX7_pack 55 = .ok (.getfield 54, 3) := by decide +kernel
theorem dX7_pack_58 : decode cX7_pack 58 = .ok (.iload_n 2, 1) := by decide +kernel
theorem dX7_pack_59 : decode cX7_pack 59 = .ok (.iaload, 1) := by decide +kernel
theorem dX7_pack_60 : decode cX7_pack 60 = .ok (.iconst 1, 1) := by decide +kernel
theorem dX7_pack_61 : decode cX7_pack 61 = .ok (.iadd, 1) := by decide +kernel
theorem dX7_pack_62 : decode cX7_pack 62 = .ok (.aload_n 1, 1) := by decide +kernel
theorem dX7_pack_63 : decode cX7_pack 63 = .ok (.getfield 59, 3) := by decide +kernel
theorem dX7_pack_66 : decode cX7_pack 66 = .ok (.iload_n 2, 1) := by decide +kernel
theorem dX7_pack_67 : decode cX7_pack 67 = .ok (.iaload, 1) := by decide +kernel
theorem dX7_pack_68 : decode cX7_pack 68 = .ok (.iconst 3, 1) := by decide +kernel
theorem dX7_pack_69 : decode cX7_pack 69 = .ok (.ishl, 1) := by decide +kernel
theorem dX7_pack_70 : decode cX7_pack 70 = .ok (.ior, 1) := by decide +kernel
theorem dX7_pack_71 : decode cX7_pack 71 = .ok (.aload_n 1, 1) := by decide +kernel
theorem dX7_pack_72 : decode cX7_pack 72 = .ok (.getfield 62, 3) := by decide +kernel
theorem dX7_pack_75 : decode cX7_pack 75 = .ok (.iload_n 2, 1) := by decide +kernel
theorem dX7_pack_76 : decode cX7_pack 76 = .ok (.iaload, 1) := by decide +kernel
theorem dX7_pack_77 : decode cX7_pack 77 = .ok (.bipush 7, 2) := by decide +kernel
theorem dX7_pack_79 : decode cX7_pack 79 = .ok (.ishl, 1) := by decide +kernel
theorem dX7_pack_80 : decode cX7_pack 80 = .ok (.ior, 1) := by decide +kernel
theorem dX7_pack_81 : decode cX7_pack 81 = .ok (.aload_n 1, 1) := by decide +kernel
theorem dX7_pack_82 : decode cX7_pack 82 = .ok (.getfield 65, 3) := by decide +kernel
theorem dX7_pack_85 : decode cX7_pack 85 = .ok (.iload_n 2, 1) := by decide +kernel
theorem dX7_pack_86 : decode cX7_pack 86 = .ok (.iaload, 1) := by decide +kernel
theorem dX7_pack_87 : decode cX7_pack 87 = .ok (.bipush 19, 2) := by decide +kernel
theorem dX7_pack_89 : decode cX7_pack 89 = .ok (.ishl, 1) := by decide +kernel
theorem dX7_pack_90 : decode cX7_pack 90 = .ok (.ior, 1) := by decide +kernel
theorem dX7_pack_91 : decode cX7_pack 91 = .ok (.iastore, 1) := by decide +kernel
theorem dX7_pack_92 : decode cX7_pack 92 = .ok (.iinc 2 1, 3) := by decide +kernel
theorem dX7_pack_95 : decode cX7_pack 95 = .ok (.goto (-53), 3) := by decide +kernel
theorem dX7_pack_98 : decode cX7_pack 98 = .ok (.aload_n 0, 1) := by decide +kernel
theorem dX7_pack_99 : decode cX7_pack 99 = .ok (.getfield 19, 3) := by decide +kernel
theorem dX7_pack_102 : decode cX7_pack 102 = .ok (.iconst 5, 1) := by decide +kernel
theorem dX7_pack_103 : decode cX7_pack 103 = .ok (.aload_n 1, 1) := by decide +kernel
theorem dX7_pack_104 : decode cX7_pack 104 = .ok (.getfield 68, 3) := by decide +kernel
theorem dX7_pack_107 : decode cX7_pack 107 = .ok (.invokestatic 71, 3) := by decide +kernel
theorem dX7_pack_110 : decode cX7_pack 110 = .ok (.iastore, 1) := by decide +kernel
theorem dX7_pack_111 : decode cX7_pack 111 = .ok (.return_, 1) := by decide +kernel
theorem dX7_packedCells_0 : decode cX7_packedCells 0 = .ok (.iconst 0, 1) := by decide +kernel
theorem dX7_packedCells_1 : decode cX7_packedCells 1 = .ok (.istore_n 1, 1) := by decide +kernel
theorem dX7_packedCells_2 : decode cX7_packedCells 2 = .ok (.iconst 0, 1) := by decide +kernel
theorem dX7_packedCells_3 : decode cX7_packedCells 3 = .ok (.istore_n 2, 1) := by decide +kernel
theorem dX7_packedCells_4 : decode cX7_packedCells 4 = .ok (.iload_n 2, 1) := by decide +kernel
theorem dX7_packedCells_5 : decode cX7_packedCells 5 = .ok (.iconst 4, 1) := by decide +kernel
theorem dX7_packedCells_6 : decode cX7_packedCells 6 = .ok (.if_icmp .ge 23, 3) := by decide +kernel
theorem dX7_packedCells_9 : decode cX7_packedCells 9 = .ok (.iload_n 1, 1) := by decide +kernel
theorem dX7_packedCells_10 : decode cX7_packedCells 10 = .ok (.aload_n 0, 1) := by decide +kernel
theorem dX7_packedCells_11 : decode cX7_packedCells 11 = .ok (.iload_n 2, 1) := by decide +kernel
theorem dX7_packedCells_12 : decode cX7_packedCells 12 = .ok (.iaload, 1) := by decide +kernel
theorem dX7_packedCells_13 : decode cX7_packedCells 13 = .ok (.bipush 99, 2) := by decide +kernel
theorem dX7_packedCells_15 : decode cX7_packedCells 15 = .ok (.iadd, 1) := by decide +kernel
theorem dX7_packedCells_16 : decode cX7_packedCells 16 = .ok (.bipush 8, 2) := by decide +kernel
theorem dX7_packedCells_18 : decode cX7_packedCells 18 = .ok (.iload_n 2, 1) := by decide +kernel
theorem dX7_packedCells_19 : decode cX7_packedCells 19 = .ok (.imul, 1) := by decide +kernel
theorem dX7_packedCells_20 : decode cX7_packedCells 20 = .ok (.ishl, 1) := by decide +kernel
theorem dX7_packedCells_21 : decode cX7_packedCells 21 = .ok (.ior, 1) := by decide +kernel
theorem dX7_packedCells_22 : decode cX7_packedCells 22 = .ok (.istore_n 1, 1) := by decide +kernel
theorem dX7_packedCells_23 : decode cX7_packedCells 23 = .ok (.iinc 2 1, 3) := by decide +kernel
theorem dX7_packedCells_26 : decode cX7_packedCells 26 = .ok (.goto (-22), 3) := by decide +kernel
theorem dX7_packedCells_29 : decode cX7_packedCells 29 = .ok (.iload_n 1, 1) := by decide +kernel
theorem dX7_packedCells_30 : decode cX7_packedCells 30 = .ok (.ireturn, 1) := by decide +kernel
theorem dX7_packedTask_0 : decode cX7_packedTask 0 = .ok (.aload_n 0, 1) := by decide +kernel
theorem dX7_packedTask_1 : decode cX7_packedTask 1 = .ok (.getfield 75, 3) := by decide +kernel
theorem dX7_packedTask_4 : decode cX7_packedTask 4 = .ok (.iload_n 1, 1) := by decide +kernel
theorem dX7_packedTask_5 : decode cX7_packedTask 5 = .ok (.iaload, 1) := by decide +kernel
theorem dX7_packedTask_6 : decode cX7_packedTask 6 = .ok (.aload_n 0, 1) := by decide +kernel
theorem dX7_packedTask_7 : decode cX7_packedTask 7 = .ok (.getfield 78, 3) := by decide +kernel
theorem dX7_packedTask_10 : decode cX7_packedTask 10 = .ok (.iload_n 1, 1) := by decide +kernel
theorem dX7_packedTask_11 : decode cX7_packedTask 11 = .ok (.iaload, 1) := by decide +kernel
theorem dX7_packedTask_12 : decode cX7_packedTask 12 = .ok (.iconst 4, 1) := by decide +kernel
theorem dX7_packedTask_13 : decode cX7_packedTask 13 = .ok (.ishl, 1) := by decide +kernel
theorem dX7_packedTask_14 : decode cX7_packedTask 14 = .ok (.ior, 1) := by decide +kernel
theorem dX7_packedTask_15 : decode cX7_packedTask 15 = .ok (.aload_n 0, 1) := by decide +kernel
theorem dX7_packedTask_16 : decode cX7_packedTask 16 = .ok (.getfield 81, 3) := by decide +kernel
theorem dX7_packedTask_19 : decode cX7_packedTask 19 = .ok (.iload_n 1, 1) := by decide +kernel
theorem dX7_packedTask_20 : decode cX7_packedTask 20 = .ok (.iaload, 1) := by decide +kernel
theorem dX7_packedTask_21 : decode cX7_packedTask 21 = .ok (.bipush 7, 2) := by decide +kernel
theorem dX7_packedTask_23 : decode cX7_packedTask 23 = .ok (.ishl, 1) := by decide +kernel
theorem dX7_packedTask_24 : decode cX7_packedTask 24 = .ok (.ior, 1) := by decide +kernel
theorem dX7_packedTask_25 : decode cX7_packedTask 25 = .ok (.ireturn, 1) := by decide +kernel
theorem dX7_unpack_0 : decode cX7_unpack 0 = .ok (.iload_n 1, 1) := by decide +kernel
theorem dX7_unpack_1 : decode cX7_unpack 1 = .ok (.ifCond .lt 11, 3) := by decide +kernel
theorem dX7_unpack_4 : decode cX7_unpack 4 = .ok (.iload_n 1, 1) := by decide +kernel
theorem dX7_unpack_5 : decode cX7_unpack 5 = .ok (.aload_n 0, 1) := by decide +kernel
theorem dX7_unpack_6 : decode cX7_unpack 6 = .ok (.getfield 9, 3) := by decide +kernel
theorem dX7_unpack_9 : decode cX7_unpack 9 = .ok (.if_icmp .lt 4, 3) := by decide +kernel
theorem dX7_unpack_12 : decode cX7_unpack 12 = .ok (.return_, 1) := by decide +kernel
theorem dX7_unpack_13 : decode cX7_unpack 13 = .ok (.iload_n 1, 1) := by decide +kernel
theorem dX7_unpack_14 : decode cX7_unpack 14 = .ok (.bipush 6, 2) := by decide +kernel
theorem dX7_unpack_16 : decode cX7_unpack 16 = .ok (.imul, 1) := by decide +kernel
theorem dX7_unpack_17 : decode cX7_unpack 17 = .ok (.istore_n 3, 1) := by decide +kernel
theorem dX7_unpack_18 : decode cX7_unpack 18 = .ok (.iconst 0, 1) := by decide +kernel
theorem dX7_unpack_19 : decode cX7_unpack 19 = .ok (.istore 4, 2) := by decide +kernel
theorem dX7_unpack_21 : decode cX7_unpack 21 = .ok (.iload 4, 2) := by decide +kernel
theorem dX7_unpack_23 : decode cX7_unpack 23 = .ok (.iconst 4, 1) := by decide +kernel
theorem dX7_unpack_24 : decode cX7_unpack 24 = .ok (.if_icmp .ge 71, 3) := by decide +kernel
theorem dX7_unpack_27 : decode cX7_unpack 27 = .ok (.aload_n 0, 1) := by decide +kernel
theorem dX7_unpack_28 : decode cX7_unpack 28 = .ok (.getfield 15, 3) := by decide +kernel
theorem dX7_unpack_31 : decode cX7_unpack 31 = .ok (.iload_n 3, 1) := by decide +kernel
theorem dX7_unpack_32 : decode cX7_unpack 32 = .ok (.iload 4, 2) := by decide +kernel
theorem dX7_unpack_34 : decode cX7_unpack 34 = .ok (.iconst 1, 1) := by decide +kernel
theorem dX7_unpack_35 : decode cX7_unpack 35 = .ok (.ishr, 1) := by decide +kernel
theorem dX7_unpack_36 : decode cX7_unpack 36 = .ok (.iadd, 1) := by decide +kernel
theorem dX7_unpack_37 : decode cX7_unpack 37 = .ok (.iaload, 1) := by decide +kernel
theorem dX7_unpack_38 : decode cX7_unpack 38 = .ok (.bipush 11, 2) := by decide +kernel
theorem dX7_unpack_40 : decode cX7_unpack 40 = .ok (.iload 4, 2) := by decide +kernel
theorem dX7_unpack_42 : decode cX7_unpack 42 = .ok (.iconst 1, 1) := by decide +kernel
theorem dX7_unpack_43 : decode cX7_unpack 43 = .ok (.iand, 1) := by decide +kernel
theorem dX7_unpack_44 : decode cX7_unpack 44 = .ok (.imul, 1) := by decide +kernel
theorem dX7_unpack_45 : decode cX7_unpack 45 = .ok (.iushr, 1) := by decide +kernel
theorem dX7_unpack_46 : decode cX7_unpack 46 = .ok (.istore 5, 2) := by decide +kernel
theorem dX7_unpack_48 : decode cX7_unpack 48 = .ok (.aload_n 2, 1) := by decide +kernel
theorem dX7_unpack_49 : decode cX7_unpack 49 = .ok (.getfield 75, 3) := by decide +kernel
theorem dX7_unpack_52 : decode cX7_unpack 52 = .ok (.iload 4, 2) := by decide +kernel
theorem dX7_unpack_54 : decode cX7_unpack 54 = .ok (.iload 5, 2) := by decide +kernel
theorem dX7_unpack_56 : decode cX7_unpack 56 = .ok (.bipush 15, 2) := by decide +kernel
theorem dX7_unpack_58 : decode cX7_unpack 58 = .ok (.iand, 1) := by decide +kernel
theorem dX7_unpack_59 : decode cX7_unpack 59 = .ok (.iastore, 1) := by decide +kernel
theorem dX7_unpack_60 : decode cX7_unpack 60 = .ok (.aload_n 2, 1) := by decide +kernel
theorem dX7_unpack_61 : decode cX7_unpack 61 = .ok (.getfield 78, 3) := by decide +kernel
theorem dX7_unpack_64 : decode cX7_unpack 64 = .ok (.iload 4, 2) := by decide +kernel
theorem dX7_unpack_66 : decode cX7_unpack 66 = .ok (.iload 5, 2) := by decide +kernel
theorem dX7_unpack_68 : decode cX7_unpack 68 = .ok (.iconst 4, 1) := by decide +kernel
theorem dX7_unpack_69 : decode cX7_unpack 69 = .ok (.iushr, 1) := by decide +kernel
theorem dX7_unpack_70 : decode cX7_unpack 70 = .ok (.bipush 7, 2) := by decide +kernel
theorem dX7_unpack_72 : decode cX7_unpack 72 = .ok (.iand, 1) := by decide +kernel
theorem dX7_unpack_73 : decode cX7_unpack 73 = .ok (.iastore, 1) := by decide +kernel
theorem dX7_unpack_74 : decode cX7_unpack 74 = .ok (.aload_n 2, 1) := by decide +kernel
theorem dX7_unpack_75 : decode cX7_unpack 75 = .ok (.getfield 81, 3) := by decide +kernel
theorem dX7_unpack_78 : decode cX7_unpack 78 = .ok (.iload 4, 2) := by decide +kernel
theorem dX7_unpack_80 : decode cX7_unpack 80 = .ok (.iload 5, 2) := by decide +kernel
theorem dX7_unpack_82 : decode cX7_unpack 82 = .ok (.bipush 7, 2) := by decide +kernel
theorem dX7_unpack_84 : decode cX7_unpack 84 = .ok (.iushr, 1) := by decide +kernel
theorem dX7_unpack_85 : decode cX7_unpack 85 = .ok (.bipush 15, 2) := by decide +kernel
theorem dX7_unpack_87 : decode cX7_unpack 87 = .ok (.iand, 1) := by decide +kernel
theorem dX7_unpack_88 : decode cX7_unpack 88 = .ok (.iastore, 1) := by decide +kernel
theorem dX7_unpack_89 : decode cX7_unpack 89 = .ok (.iinc 4 1, 3) := by decide +kernel
theorem dX7_unpack_92 : decode cX7_unpack 92 = .ok (.goto (-71), 3) := by decide +kernel
theorem dX7_unpack_95 : decode cX7_unpack 95 = .ok (.iconst 0, 1) := by decide +kernel
theorem dX7_unpack_96 : decode cX7_unpack 96 = .ok (.istore 4, 2) := by decide +kernel
theorem dX7_unpack_98 : decode cX7_unpack 98 = .ok (.iload 4, 2) := by decide +kernel
theorem dX7_unpack_100 : decode cX7_unpack 100 = .ok (.iconst 3, 1) := by decide +kernel
theorem dX7_unpack_101 : decode cX7_unpack 101 = .ok (.if_icmp .ge 78, 3) := by decide +kernel
theorem dX7_unpack_104 : decode cX7_unpack 104 = .ok (.aload_n 0, 1) := by decide +kernel
theorem dX7_unpack_105 : decode cX7_unpack 105 = .ok (.getfield 15, 3) := by decide +kernel
theorem dX7_unpack_108 : decode cX7_unpack 108 = .ok (.iload_n 3, 1) := by decide +kernel
theorem dX7_unpack_109 : decode cX7_unpack 109 = .ok (.iconst 2, 1) := by decide +kernel
theorem dX7_unpack_110 : decode cX7_unpack 110 = .ok (.iadd, 1) := by decide +kernel
theorem dX7_unpack_111 : decode cX7_unpack 111 = .ok (.iload 4, 2) := by decide +kernel
theorem dX7_unpack_113 : decode cX7_unpack 113 = .ok (.iadd, 1) := by decide +kernel
theorem dX7_unpack_114 : decode cX7_unpack 114 = .ok (.iaload, 1) := by decide +kernel
theorem dX7_unpack_115 : decode cX7_unpack 115 = .ok (.istore 5, 2) := by decide +kernel
theorem dX7_unpack_117 : decode cX7_unpack 117 = .ok (.aload_n 2, 1) := by decide +kernel
theorem dX7_unpack_118 : decode cX7_unpack 118 = .ok (.getfield 54, 3) := by decide +kernel
theorem dX7_unpack_121 : decode cX7_unpack 121 = .ok (.iload 4, 2) := by decide +kernel
theorem dX7_unpack_123 : decode cX7_unpack 123 = .ok (.iload 5, 2) := by decide +kernel
theorem dX7_unpack_125 : decode cX7_unpack 125 = .ok (.bipush 7, 2) := by decide +kernel
theorem dX7_unpack_127 : decode cX7_unpack 127 = .ok (.iand, 1) := by decide +kernel
theorem dX7_unpack_128 : decode cX7_unpack 128 = .ok (.iconst 1, 1) := by decide +kernel
theorem dX7_unpack_129 : decode cX7_unpack 129 = .ok (.isub, 1) := by decide +kernel
theorem dX7_unpack_130 : decode cX7_unpack 130 = .ok (.iastore, 1) := by decide +kernel
theorem dX7_unpack_131 : decode cX7_unpack 131 = .ok (.aload_n 2, 1) := by decide +kernel
theorem dX7_unpack_132 : decode cX7_unpack 132 = .ok (.getfield 59, 3) := by decide +kernel
theorem dX7_unpack_135 : decode cX7_unpack 135 = .ok (.iload 4, 2) := by decide +kernel
theorem dX7_unpack_137 : decode cX7_unpack 137 = .ok (.iload 5, 2) := by decide +kernel
theorem dX7_unpack_139 : decode cX7_unpack 139 = .ok (.iconst 3, 1) := by decide +kernel
theorem dX7_unpack_140 : decode cX7_unpack 140 = .ok (.iushr, 1) := by decide +kernel
theorem dX7_unpack_141 : decode cX7_unpack 141 = .ok (.bipush 15, 2) := by decide +kernel
theorem dX7_unpack_143 : decode cX7_unpack 143 = .ok (.iand, 1) := by decide +kernel
theorem dX7_unpack_144 : decode cX7_unpack 144 = .ok (.iastore, 1) := by decide +kernel
theorem dX7_unpack_145 : decode cX7_unpack 145 = .ok (.aload_n 2, 1) := by decide +kernel
theorem dX7_unpack_146 : decode cX7_unpack 146 = .ok (.getfield 62, 3) := by decide +kernel
theorem dX7_unpack_149 : decode cX7_unpack 149 = .ok (.iload 4, 2) := by decide +kernel
theorem dX7_unpack_151 : decode cX7_unpack 151 = .ok (.iload 5, 2) := by decide +kernel
theorem dX7_unpack_153 : decode cX7_unpack 153 = .ok (.bipush 7, 2) := by decide +kernel
theorem dX7_unpack_155 : decode cX7_unpack 155 = .ok (.iushr, 1) := by decide +kernel
theorem dX7_unpack_156 : decode cX7_unpack 156 = .ok (.sipush 4095, 3) := by decide +kernel
theorem dX7_unpack_159 : decode cX7_unpack 159 = .ok (.iand, 1) := by decide +kernel
theorem dX7_unpack_160 : decode cX7_unpack 160 = .ok (.iastore, 1) := by decide +kernel
theorem dX7_unpack_161 : decode cX7_unpack 161 = .ok (.aload_n 2, 1) := by decide +kernel
theorem dX7_unpack_162 : decode cX7_unpack 162 = .ok (.getfield 65, 3) := by decide +kernel
theorem dX7_unpack_165 : decode cX7_unpack 165 = .ok (.iload 4, 2) := by decide +kernel
theorem dX7_unpack_167 : decode cX7_unpack 167 = .ok (.iload 5, 2) := by decide +kernel
theorem dX7_unpack_169 : decode cX7_unpack 169 = .ok (.bipush 19, 2) := by decide +kernel
theorem dX7_unpack_171 : decode cX7_unpack 171 = .ok (.iushr, 1) := by decide +kernel
theorem dX7_unpack_172 : decode cX7_unpack 172 = .ok (.iastore, 1) := by decide +kernel
theorem dX7_unpack_173 : decode cX7_unpack 173 = .ok (.iinc 4 1, 3) := by decide +kernel
theorem dX7_unpack_176 : decode cX7_unpack 176 = .ok (.goto (-78), 3) := by decide +kernel
theorem dX7_unpack_179 : decode cX7_unpack 179 = .ok (.iconst 0, 1) := by decide +kernel
theorem dX7_unpack_180 : decode cX7_unpack 180 = .ok (.istore 4, 2) := by decide +kernel
theorem dX7_unpack_182 : decode cX7_unpack 182 = .ok (.iload 4, 2) := by decide +kernel
theorem dX7_unpack_184 : decode cX7_unpack 184 = .ok (.iconst 4, 1) := by decide +kernel
theorem dX7_unpack_185 : decode cX7_unpack 185 = .ok (.if_icmp .ge 29, 3) := by decide +kernel
theorem dX7_unpack_188 : decode cX7_unpack 188 = .ok (.aload_n 2, 1) := by decide +kernel
theorem dX7_unpack_189 : decode cX7_unpack 189 = .ok (.getfield 68, 3) := by decide +kernel
theorem dX7_unpack_192 : decode cX7_unpack 192 = .ok (.iload 4, 2) := by decide +kernel
theorem dX7_unpack_194 : decode cX7_unpack 194 = .ok (.aload_n 0, 1) := by decide +kernel
theorem dX7_unpack_195 : decode cX7_unpack 195 = .ok (.getfield 15, 3) := by decide +kernel
theorem dX7_unpack_198 : decode cX7_unpack 198 = .ok (.iload_n 3, 1) := by decide +kernel
theorem dX7_unpack_199 : decode cX7_unpack 199 = .ok (.iconst 5, 1) := by decide +kernel
theorem dX7_unpack_200 : decode cX7_unpack 200 = .ok (.iadd, 1) := by decide +kernel
theorem dX7_unpack_201 : decode cX7_unpack 201 = .ok (.iaload, 1) := by decide +kernel
theorem dX7_unpack_202 : decode cX7_unpack 202 = .ok (.iload 4, 2) := by decide +kernel
theorem dX7_unpack_204 : decode cX7_unpack 204 = .ok (.invokestatic 84, 3) := by decide +kernel
theorem dX7_unpack_207 : decode cX7_unpack 207 = .ok (.iastore, 1) := by decide +kernel
theorem dX7_unpack_208 : decode cX7_unpack 208 = .ok (.iinc 4 1, 3) := by decide +kernel
theorem dX7_unpack_211 : decode cX7_unpack 211 = .ok (.goto (-29), 3) := by decide +kernel
theorem dX7_unpack_214 : decode cX7_unpack 214 = .ok (.return_, 1) := by decide +kernel
theorem dX7_unpackedCell_0 : decode cX7_unpackedCell 0 = .ok (.iload_n 0, 1) := by decide +kernel
theorem dX7_unpackedCell_1 : decode cX7_unpackedCell 1 = .ok (.bipush 8, 2) := by decide +kernel
theorem dX7_unpackedCell_3 : decode cX7_unpackedCell 3 = .ok (.iload_n 1, 1) := by decide +kernel
theorem dX7_unpackedCell_4 : decode cX7_unpackedCell 4 = .ok (.imul, 1) := by decide +kernel
theorem dX7_unpackedCell_5 : decode cX7_unpackedCell 5 = .ok (.iushr, 1) := by decide +kernel
theorem dX7_unpackedCell_6 : decode cX7_unpackedCell 6 = .ok (.sipush 255, 3) := by decide +kernel
theorem dX7_unpackedCell_9 : decode cX7_unpackedCell 9 = .ok (.iand, 1) := by decide +kernel
theorem dX7_unpackedCell_10 : decode cX7_unpackedCell 10 = .ok (.bipush 99, 2) := by decide +kernel
theorem dX7_unpackedCell_12 : decode cX7_unpackedCell 12 = .ok (.isub, 1) := by decide +kernel
theorem dX7_unpackedCell_13 : decode cX7_unpackedCell 13 = .ok (.ireturn, 1) := by decide +kernel
theorem dX8_append_0 : decode cX8_append 0 = .ok (.aload_n 0, 1) := by decide +kernel
theorem dX8_append_1 : decode cX8_append 1 = .ok (.getfield 15, 3) := by decide +kernel
theorem dX8_append_4 : decode cX8_append 4 = .ok (.bipush 120, 2) := by decide +kernel
theorem dX8_append_6 : decode cX8_append 6 = .ok (.if_icmp .ge 23, 3) := by decide +kernel
theorem dX8_append_9 : decode cX8_append 9 = .ok (.aload_n 0, 1) := by decide +kernel
theorem dX8_append_10 : decode cX8_append 10 = .ok (.getfield 9, 3) := by decide +kernel
theorem dX8_append_13 : decode cX8_append 13 = .ok (.aload_n 0, 1) := by decide +kernel
theorem dX8_append_14 : decode cX8_append 14 = .ok (.getfield 15, 3) := by decide +kernel
theorem dX8_append_17 : decode cX8_append 17 = .ok (.iload_n 1, 1) := by decide +kernel
theorem dX8_append_18 : decode cX8_append 18 = .ok (.iastore, 1) := by decide +kernel
theorem dX8_append_19 : decode cX8_append 19 = .ok (.aload_n 0, 1) := by decide +kernel
theorem dX8_append_20 : decode cX8_append 20 = .ok (.dup, 1) := by decide +kernel
theorem dX8_append_21 : decode cX8_append 21 = .ok (.getfield 15, 3) := by decide +kernel
theorem dX8_append_24 : decode cX8_append 24 = .ok (.iconst 1, 1) := by decide +kernel
theorem dX8_append_25 : decode cX8_append 25 = .ok (.iadd, 1) := by decide +kernel
theorem dX8_append_26 : decode cX8_append 26 = .ok (.putfield 15, 3) := by decide +kernel
theorem dX8_append_29 : decode cX8_append 29 = .ok (.return_, 1) := by decide +kernel
theorem dX8_at_0 : decode cX8_at 0 = .ok (.iload_n 1, 1) := by decide +kernel
theorem dX8_at_1 : decode cX8_at 1 = .ok (.ifCond .lt 11, 3) := by decide +kernel
theorem dX8_at_4 : decode cX8_at 4 = .ok (.iload_n 1, 1) := by decide +kernel
theorem dX8_at_5 : decode cX8_at 5 = .ok (.aload_n 0, 1) := by decide +kernel
theorem dX8_at_6 : decode cX8_at 6 = .ok (.getfield 15, 3) := by decide +kernel
theorem dX8_at_9 : decode cX8_at 9 = .ok (.if_icmp .lt 7, 3) := by decide +kernel
theorem dX8_at_12 : decode cX8_at 12 = .ok (.iconst 0, 1) := by decide +kernel
theorem dX8_at_13 : decode cX8_at 13 = .ok (.goto 9, 3) := by decide +kernel
theorem dX8_at_16 : decode cX8_at 16 = .ok (.aload_n 0, 1) := by decide +kernel
theorem dX8_at_17 : decode cX8_at 17 = .ok (.getfield 9, 3) := by decide +kernel
theorem dX8_at_20 : decode cX8_at 20 = .ok (.iload_n 1, 1) := by decide +kernel
theorem dX8_at_21 : decode cX8_at 21 = .ok (.iaload, 1) := by decide +kernel
theorem dX8_at_22 : decode cX8_at 22 = .ok (.ireturn, 1) := by decide +kernel
theorem dX8_init_0 : decode cX8_init 0 = .ok (.aload_n 0, 1) := by decide +kernel
theorem dX8_init_1 : decode cX8_init 1 = .ok (.invokespecial 3, 3) := by decide +kernel
end
section
theorem dX8_init_4 : decode cX8_init 4 = .ok (.aload_n 0, 1) := by decide +kernel
theorem dX8_init_5 : decode cX8_init 5 = .ok (.bipush 120, 2) := by decide +kernel
theorem dX8_init_7 : decode cX8_init 7 = .ok (.newarray .int, 2) := by decide +kernel
theorem dX8_init_9 : decode cX8_init 9 = .ok (.putfield 9, 3) := by decide +kernel
theorem dX8_init_12 : decode cX8_init 12 = .ok (.aload_n 0, 1) := by decide +kernel
theorem dX8_init_13 : decode cX8_init 13 = .ok (.iconst 0, 1) := by decide +kernel
theorem dX8_init_14 : decode cX8_init 14 = .ok (.putfield 15, 3) := by decide +kernel
theorem dX8_init_17 : decode cX8_init 17 = .ok (.return_, 1) := by decide +kernel
theorem dX9_append_0 : decode cX9_append 0 = .ok (.aload_n 0, 1) := by decide +kernel
theorem dX9_append_1 : decode cX9_append 1 = .ok (.getfield 9, 3) := by decide +kernel
theorem dX9_append_4 : decode cX9_append 4 = .ok (.aload_n 0, 1) := by decide +kernel
theorem dX9_append_5 : decode cX9_append 5 = .ok (.getfield 15, 3) := by decide +kernel
theorem dX9_append_8 : decode cX9_append 8 = .ok (.arraylength, 1) := by decide +kernel
theorem dX9_append_9 : decode cX9_append 9 = .ok (.if_icmp .ge 33, 3) := by decide +kernel
theorem dX9_append_12 : decode cX9_append 12 = .ok (.aload_n 0, 1) := by decide +kernel
theorem dX9_append_13 : decode cX9_append 13 = .ok (.getfield 15, 3) := by decide +kernel
theorem dX9_append_16 : decode cX9_append 16 = .ok (.aload_n 0, 1) := by decide +kernel
theorem dX9_append_17 : decode cX9_append 17 = .ok (.getfield 9, 3) := by decide +kernel
theorem dX9_append_20 : decode cX9_append 20 = .ok (.iload_n 1, 1) := by decide +kernel
theorem dX9_append_21 : decode cX9_append 21 = .ok (.iastore, 1) := by decide +kernel
theorem dX9_append_22 : decode cX9_append 22 = .ok (.aload_n 0, 1) := by decide +kernel
theorem dX9_append_23 : decode cX9_append 23 = .ok (.getfield 19, 3) := by decide +kernel
theorem dX9_append_26 : decode cX9_append 26 = .ok (.aload_n 0, 1) := by decide +kernel
theorem dX9_append_27 : decode cX9_append 27 = .ok (.getfield 9, 3) := by decide +kernel
theorem dX9_append_30 : decode cX9_append 30 = .ok (.iload_n 2, 1) := by decide +kernel
theorem dX9_append_31 : decode cX9_append 31 = .ok (.iastore, 1) := by decide +kernel
theorem dX9_append_32 : decode cX9_append 32 = .ok (.aload_n 0, 1) := by decide +kernel
theorem dX9_append_33 : decode cX9_append 33 = .ok (.dup, 1) := by decide +kernel
theorem dX9_append_34 : decode cX9_append 34 = .ok (.getfield 9, 3) := by decide +kernel
theorem dX9_append_37 : decode cX9_append 37 = .ok (.iconst 1, 1) := by decide +kernel
theorem dX9_append_38 : decode cX9_append 38 = .ok (.iadd, 1) := by decide +kernel
theorem dX9_append_39 : decode cX9_append 39 = .ok (.putfield 9, 3) := by decide +kernel
theorem dX9_append_42 : decode cX9_append 42 = .ok (.return_, 1) := by decide +kernel
theorem dX9_init_0 : decode cX9_init 0 = .ok (.aload_n 0, 1) := by decide +kernel
theorem dX9_init_1 : decode cX9_init 1 = .ok (.invokespecial 3, 3) := by decide +kernel
theorem dX9_init_4 : decode cX9_init 4 = .ok (.aload_n 0, 1) := by decide +kernel
theorem dX9_init_5 : decode cX9_init 5 = .ok (.iconst 0, 1) := by decide +kernel
theorem dX9_init_6 : decode cX9_init 6 = .ok (.putfield 9, 3) := by decide +kernel
theorem dX9_init_9 : decode cX9_init 9 = .ok (.aload_n 0, 1) := by decide +kernel
theorem dX9_init_10 : decode cX9_init 10 = .ok (.iconst 3, 1) := by decide +kernel
theorem dX9_init_11 : decode cX9_init 11 = .ok (.newarray .int, 2) := by decide +kernel
theorem dX9_init_13 : decode cX9_init 13 = .ok (.putfield 15, 3) := by decide +kernel
theorem dX9_init_16 : decode cX9_init 16 = .ok (.aload_n 0, 1) := by decide +kernel
theorem dX9_init_17 : decode cX9_init 17 = .ok (.iconst 3, 1) := by decide +kernel
theorem dX9_init_18 : decode cX9_init 18 = .ok (.newarray .int, 2) := by decide +kernel
theorem dX9_init_20 : decode cX9_init 20 = .ok (.putfield 19, 3) := by decide +kernel
theorem dX9_init_23 : decode cX9_init 23 = .ok (.return_, 1) := by decide +kernel
theorem dX9_link_0 : decode cX9_link 0 = .ok (.iload_n 1, 1) := by decide +kernel
theorem dX9_link_1 : decode cX9_link 1 = .ok (.ifCond .lt 11, 3) := by decide +kernel
theorem dX9_link_4 : decode cX9_link 4 = .ok (.iload_n 1, 1) := by decide +kernel
theorem dX9_link_5 : decode cX9_link 5 = .ok (.aload_n 0, 1) := by decide +kernel
theorem dX9_link_6 : decode cX9_link 6 = .ok (.getfield 9, 3) := by decide +kernel
theorem dX9_link_9 : decode cX9_link 9 = .ok (.if_icmp .lt 6, 3) := by decide +kernel
theorem dX9_link_12 : decode cX9_link 12 = .ok (.bipush (-5), 2) := by decide +kernel
theorem dX9_link_14 : decode cX9_link 14 = .ok (.ireturn, 1) := by decide +kernel
theorem dX9_link_15 : decode cX9_link 15 = .ok (.iload_n 2, 1) := by decide +kernel
theorem dX9_link_16 : decode cX9_link 16 = .ok (.ifCond .ne 12, 3) := by decide +kernel
theorem dX9_link_19 : decode cX9_link 19 = .ok (.aload_n 0, 1) := by decide +kernel
theorem dX9_link_20 : decode cX9_link 20 = .ok (.getfield 15, 3) := by decide +kernel
theorem dX9_link_23 : decode cX9_link 23 = .ok (.iload_n 1, 1) := by decide +kernel
theorem dX9_link_24 : decode cX9_link 24 = .ok (.iaload, 1) := by decide +kernel
theorem dX9_link_25 : decode cX9_link 25 = .ok (.goto 9, 3) := by decide +kernel
theorem dX9_link_28 : decode cX9_link 28 = .ok (.aload_n 0, 1) := by decide +kernel
theorem dX9_link_29 : decode cX9_link 29 = .ok (.getfield 19, 3) := by decide +kernel
theorem dX9_link_32 : decode cX9_link 32 = .ok (.iload_n 1, 1) := by decide +kernel
theorem dX9_link_33 : decode cX9_link 33 = .ok (.iaload, 1) := by decide +kernel
theorem dX9_link_34 : decode cX9_link 34 = .ok (.ireturn, 1) := by decide +kernel
theorem dX9_ofProgram_0 : decode cX9_ofProgram 0 = .ok (.aload_n 0, 1) := by decide +kernel
theorem dX9_ofProgram_1 : decode cX9_ofProgram 1 = .ok (.iconst 0, 1) := by decide +kernel
theorem dX9_ofProgram_2 : decode cX9_ofProgram 2 = .ok (.putfield 9, 3) := by decide +kernel
theorem dX9_ofProgram_5 : decode cX9_ofProgram 5 = .ok (.aload_n 0, 1) := by decide +kernel
theorem dX9_ofProgram_6 : decode cX9_ofProgram 6 = .ok (.iconst 1, 1) := by decide +kernel
theorem dX9_ofProgram_7 : decode cX9_ofProgram 7 = .ok (.iload_n 1, 1) := by decide +kernel
theorem dX9_ofProgram_8 : decode cX9_ofProgram 8 = .ok (.invokevirtual 22, 3) := by decide +kernel
theorem dX9_ofProgram_11 : decode cX9_ofProgram 11 = .ok (.aload_n 0, 1) := by decide +kernel
theorem dX9_ofProgram_12 : decode cX9_ofProgram 12 = .ok (.iconst 2, 1) := by decide +kernel
theorem dX9_ofProgram_13 : decode cX9_ofProgram 13 = .ok (.iload_n 2, 1) := by decide +kernel
theorem dX9_ofProgram_14 : decode cX9_ofProgram 14 = .ok (.invokevirtual 22, 3) := by decide +kernel
theorem dX9_ofProgram_17 : decode cX9_ofProgram 17 = .ok (.aload_n 0, 1) := by decide +kernel
theorem dX9_ofProgram_18 : decode cX9_ofProgram 18 = .ok (.iconst 3, 1) := by decide +kernel
theorem dX9_ofProgram_19 : decode cX9_ofProgram 19 = .ok (.iload_n 3, 1) := by decide +kernel
theorem dX9_ofProgram_20 : decode cX9_ofProgram 20 = .ok (.invokevirtual 22, 3) := by decide +kernel
theorem dX9_ofProgram_23 : decode cX9_ofProgram 23 = .ok (.return_, 1) := by decide +kernel
theorem dX9_ofStep_0 : decode cX9_ofStep 0 = .ok (.aload_n 0, 1) := by decide +kernel
theorem dX9_ofStep_1 : decode cX9_ofStep 1 = .ok (.iconst 0, 1) := by decide +kernel
theorem dX9_ofStep_2 : decode cX9_ofStep 2 = .ok (.putfield 9, 3) := by decide +kernel
theorem dX9_ofStep_5 : decode cX9_ofStep 5 = .ok (.aload_n 0, 1) := by decide +kernel
theorem dX9_ofStep_6 : decode cX9_ofStep 6 = .ok (.iconst 4, 1) := by decide +kernel
theorem dX9_ofStep_7 : decode cX9_ofStep 7 = .ok (.iload_n 1, 1) := by decide +kernel
theorem dX9_ofStep_8 : decode cX9_ofStep 8 = .ok (.invokevirtual 22, 3) := by decide +kernel
theorem dX9_ofStep_11 : decode cX9_ofStep 11 = .ok (.aload_n 0, 1) := by decide +kernel
theorem dX9_ofStep_12 : decode cX9_ofStep 12 = .ok (.iconst 5, 1) := by decide +kernel
theorem dX9_ofStep_13 : decode cX9_ofStep 13 = .ok (.iload_n 2, 1) := by decide +kernel
theorem dX9_ofStep_14 : decode cX9_ofStep 14 = .ok (.invokevirtual 22, 3) := by decide +kernel
theorem dX9_ofStep_17 : decode cX9_ofStep 17 = .ok (.aload_n 0, 1) := by decide +kernel
theorem dX9_ofStep_18 : decode cX9_ofStep 18 = .ok (.iload_n 3, 1) := by decide +kernel
theorem dX9_ofStep_19 : decode cX9_ofStep 19 = .ok (.iconst 2, 1) := by decide +kernel
theorem dX9_ofStep_20 : decode cX9_ofStep 20 = .ok (.if_icmp .gt 8, 3) := by decide +kernel
theorem dX9_ofStep_23 : decode cX9_ofStep 23 = .ok (.bipush 6, 2) := by decide +kernel
theorem dX9_ofStep_25 : decode cX9_ofStep 25 = .ok (.goto 5, 3) := by decide +kernel
theorem dX9_ofStep_28 : decode cX9_ofStep 28 = .ok (.bipush 7, 2) := by decide +kernel
theorem dX9_ofStep_30 : decode cX9_ofStep 30 = .ok (.iload 4, 2) := by decide +kernel
theorem dX9_ofStep_32 : decode cX9_ofStep 32 = .ok (.invokevirtual 22, 3) := by decide +kernel
theorem dX9_ofStep_35 : decode cX9_ofStep 35 = .ok (.return_, 1) := by decide +kernel
end
section
theorem dX11_are_0 : decode cX11_are 0 = .ok (.iload_n 1, 1) := by decide +kernel
theorem dX11_are_1 : decode cX11_are 1 = .ok (.i2l, 1) := by decide +kernel
theorem dX11_are_2 : decode cX11_are 2 = .ok (.lconst 0, 1) := by decide +kernel
theorem dX11_are_3 : decode cX11_are 3 = .ok (.ldc2_w 213, 3) := by decide +kernel
theorem dX11_are_6 : decode cX11_are 6 = .ok (.invokestatic 64, 3) := by decide +kernel
theorem dX11_are_9 : decode cX11_are 9 = .ok (.ifCond .eq 16, 3) := by decide +kernel
theorem dX11_are_12 : decode cX11_are 12 = .ok (.aload_n 0, 1) := by decide +kernel
theorem dX11_are_13 : decode cX11_are 13 = .ok (.aload_n 0, 1) := by decide +kernel
theorem dX11_are_14 : decode cX11_are 14 = .ok (.getfield 9, 3) := by decide +kernel
theorem dX11_are_17 : decode cX11_are 17 = .ok (.iconst 0, 1) := by decide +kernel
theorem dX11_are_18 : decode cX11_are 18 = .ok (.iload_n 1, 1) := by decide +kernel
theorem dX11_are_19 : decode cX11_are 19 = .ok (.invokevirtual 215, 3) := by decide +kernel
theorem dX11_are_22 : decode cX11_are 22 = .ok (.goto 4, 3) := by decide +kernel
theorem dX11_are_25 : decode cX11_are 25 = .ok (.iconst (-1), 1) := by decide +kernel
theorem dX11_are_26 : decode cX11_are 26 = .ok (.ireturn, 1) := by decide +kernel
theorem dX11_areCellsLike_0 : decode cX11_areCellsLike 0 = .ok (.iconst 1, 1) := by decide +kernel
theorem dX11_areCellsLike_1 : decode cX11_areCellsLike 1 = .ok (.istore_n 3, 1) := by decide +kernel
theorem dX11_areCellsLike_2 : decode cX11_areCellsLike 2 = .ok (.iconst 0, 1) := by decide +kernel
theorem dX11_areCellsLike_3 : decode cX11_areCellsLike 3 = .ok (.istore 4, 2) := by decide +kernel
theorem dX11_areCellsLike_5 : decode cX11_areCellsLike 5 = .ok (.iload 4, 2) := by decide +kernel
theorem dX11_areCellsLike_7 : decode cX11_areCellsLike 7 = .ok (.iconst 4, 1) := by decide +kernel
theorem dX11_areCellsLike_8 : decode cX11_areCellsLike 8 = .ok (.if_icmp .ge 52, 3) := by decide +kernel
theorem dX11_areCellsLike_11 : decode cX11_areCellsLike 11 = .ok (.iload_n 3, 1) := by decide +kernel
theorem dX11_areCellsLike_12 : decode cX11_areCellsLike 12 = .ok (.ifCond .eq 40, 3) := by decide +kernel
theorem dX11_areCellsLike_15 : decode cX11_areCellsLike 15 = .ok (.aload_n 0, 1) := by decide +kernel
theorem dX11_areCellsLike_16 : decode cX11_areCellsLike 16 = .ok (.getfield 40, 3) := by decide +kernel
theorem dX11_areCellsLike_19 : decode cX11_areCellsLike 19 = .ok (.bipush 52, 2) := by decide +kernel
theorem dX11_areCellsLike_21 : decode cX11_areCellsLike 21 = .ok (.iload_n 1, 1) := by decide +kernel
theorem dX11_areCellsLike_22 : decode cX11_areCellsLike 22 = .ok (.imul, 1) := by decide +kernel
theorem dX11_areCellsLike_23 : decode cX11_areCellsLike 23 = .ok (.bipush 48, 2) := by decide +kernel
theorem dX11_areCellsLike_25 : decode cX11_areCellsLike 25 = .ok (.iadd, 1) := by decide +kernel
theorem dX11_areCellsLike_26 : decode cX11_areCellsLike 26 = .ok (.iload 4, 2) := by decide +kernel
theorem dX11_areCellsLike_28 : decode cX11_areCellsLike 28 = .ok (.iadd, 1) := by decide +kernel
theorem dX11_areCellsLike_29 : decode cX11_areCellsLike 29 = .ok (.iaload, 1) := by decide +kernel
theorem dX11_areCellsLike_30 : decode cX11_areCellsLike 30 = .ok (.aload_n 0, 1) := by decide +kernel
theorem dX11_areCellsLike_31 : decode cX11_areCellsLike 31 = .ok (.getfield 40, 3) := by decide +kernel
theorem dX11_areCellsLike_34 : decode cX11_areCellsLike 34 = .ok (.bipush 52, 2) := by decide +kernel
theorem dX11_areCellsLike_36 : decode cX11_areCellsLike 36 = .ok (.iload_n 2, 1) := by decide +kernel
theorem dX11_areCellsLike_37 : decode cX11_areCellsLike 37 = .ok (.imul, 1) := by decide +kernel
theorem dX11_areCellsLike_38 : decode cX11_areCellsLike 38 = .ok (.bipush 48, 2) := by decide +kernel
theorem dX11_areCellsLike_40 : decode cX11_areCellsLike 40 = .ok (.iadd, 1) := by decide +kernel
theorem dX11_areCellsLike_41 : decode cX11_areCellsLike 41 = .ok (.iload 4, 2) := by decide +kernel
theorem dX11_areCellsLike_43 : decode cX11_areCellsLike 43 = .ok (.iadd, 1) := by decide +kernel
theorem dX11_areCellsLike_44 : decode cX11_areCellsLike 44 = .ok (.iaload, 1) := by decide +kernel
theorem dX11_areCellsLike_45 : decode cX11_areCellsLike 45 = .ok (.if_icmp .ne 7, 3) := by decide +kernel
theorem dX11_areCellsLike_48 : decode cX11_areCellsLike 48 = .ok (.iconst 1, 1) := by decide +kernel
theorem dX11_areCellsLike_49 : decode cX11_areCellsLike 49 = .ok (.goto 4, 3) := by decide +kernel
theorem dX11_areCellsLike_52 : decode cX11_areCellsLike 52 = .ok (.iconst 0, 1) := by decide +kernel
theorem dX11_areCellsLike_53 : decode cX11_areCellsLike 53 = .ok (.istore_n 3, 1) := by decide +kernel
theorem dX11_areCellsLike_54 : decode cX11_areCellsLike 54 = .ok (.iinc 4 1, 3) := by decide +kernel
theorem dX11_areCellsLike_57 : decode cX11_areCellsLike 57 = .ok (.goto (-52), 3) := by decide +kernel
theorem dX11_areCellsLike_60 : decode cX11_areCellsLike 60 = .ok (.iload_n 3, 1) := by decide +kernel
theorem dX11_areCellsLike_61 : decode cX11_areCellsLike 61 = .ok (.ireturn, 1) := by decide +kernel
theorem dX11_areIn_0 : decode cX11_areIn 0 = .ok (.iconst 0, 1) := by decide +kernel
theorem dX11_areIn_1 : decode cX11_areIn 1 = .ok (.istore 4, 2) := by decide +kernel
theorem dX11_areIn_3 : decode cX11_areIn 3 = .ok (.iconst 0, 1) := by decide +kernel
theorem dX11_areIn_4 : decode cX11_areIn 4 = .ok (.istore 5, 2) := by decide +kernel
theorem dX11_areIn_6 : decode cX11_areIn 6 = .ok (.iload 5, 2) := by decide +kernel
theorem dX11_areIn_8 : decode cX11_areIn 8 = .ok (.aload_n 0, 1) := by decide +kernel
theorem dX11_areIn_9 : decode cX11_areIn 9 = .ok (.getfield 9, 3) := by decide +kernel
theorem dX11_areIn_12 : decode cX11_areIn 12 = .ok (.bipush 52, 2) := by decide +kernel
theorem dX11_areIn_14 : decode cX11_areIn 14 = .ok (.iaload, 1) := by decide +kernel
theorem dX11_areIn_15 : decode cX11_areIn 15 = .ok (.if_icmp .ge 34, 3) := by decide +kernel
theorem dX11_areIn_18 : decode cX11_areIn 18 = .ok (.iload 4, 2) := by decide +kernel
theorem dX11_areIn_20 : decode cX11_areIn 20 = .ok (.aload_n 1, 1) := by decide +kernel
theorem dX11_areIn_21 : decode cX11_areIn 21 = .ok (.iload_n 2, 1) := by decide +kernel
theorem dX11_areIn_22 : decode cX11_areIn 22 = .ok (.iconst 4, 1) := by decide +kernel
theorem dX11_areIn_23 : decode cX11_areIn 23 = .ok (.iadd, 1) := by decide +kernel
theorem dX11_areIn_24 : decode cX11_areIn 24 = .ok (.iload 5, 2) := by decide +kernel
theorem dX11_areIn_26 : decode cX11_areIn 26 = .ok (.iadd, 1) := by decide +kernel
theorem dX11_areIn_27 : decode cX11_areIn 27 = .ok (.iaload, 1) := by decide +kernel
theorem dX11_areIn_28 : decode cX11_areIn 28 = .ok (.iload_n 3, 1) := by decide +kernel
theorem dX11_areIn_29 : decode cX11_areIn 29 = .ok (.if_icmp .ne 10, 3) := by decide +kernel
theorem dX11_areIn_32 : decode cX11_areIn 32 = .ok (.iconst 1, 1) := by decide +kernel
theorem dX11_areIn_33 : decode cX11_areIn 33 = .ok (.iload 5, 2) := by decide +kernel
theorem dX11_areIn_35 : decode cX11_areIn 35 = .ok (.ishl, 1) := by decide +kernel
theorem dX11_areIn_36 : decode cX11_areIn 36 = .ok (.goto 4, 3) := by decide +kernel
theorem dX11_areIn_39 : decode cX11_areIn 39 = .ok (.iconst 0, 1) := by decide +kernel
theorem dX11_areIn_40 : decode cX11_areIn 40 = .ok (.ior, 1) := by decide +kernel
theorem dX11_areIn_41 : decode cX11_areIn 41 = .ok (.istore 4, 2) := by decide +kernel
theorem dX11_areIn_43 : decode cX11_areIn 43 = .ok (.iinc 5 1, 3) := by decide +kernel
theorem dX11_areIn_46 : decode cX11_areIn 46 = .ok (.goto (-40), 3) := by decide +kernel
theorem dX11_areIn_49 : decode cX11_areIn 49 = .ok (.iload 4, 2) := by decide +kernel
theorem dX11_areIn_51 : decode cX11_areIn 51 = .ok (.ireturn, 1) := by decide +kernel
theorem dX11_areSo_0 : decode cX11_areSo 0 = .ok (.iconst 1, 1) := by decide +kernel
theorem dX11_areSo_1 : decode cX11_areSo 1 = .ok (.istore_n 3, 1) := by decide +kernel
theorem dX11_areSo_2 : decode cX11_areSo 2 = .ok (.iconst 0, 1) := by decide +kernel
theorem dX11_areSo_3 : decode cX11_areSo 3 = .ok (.istore 4, 2) := by decide +kernel
theorem dX11_areSo_5 : decode cX11_areSo 5 = .ok (.iload 4, 2) := by decide +kernel
theorem dX11_areSo_7 : decode cX11_areSo 7 = .ok (.aload_n 0, 1) := by decide +kernel
theorem dX11_areSo_8 : decode cX11_areSo 8 = .ok (.getfield 218, 3) := by decide +kernel
theorem dX11_areSo_11 : decode cX11_areSo 11 = .ok (.if_icmp .ge 117, 3) := by decide +kernel
theorem dX11_areSo_14 : decode cX11_areSo 14 = .ok (.aload_n 1, 1) := by decide +kernel
theorem dX11_areSo_15 : decode cX11_areSo 15 = .ok (.iload_n 2, 1) := by decide +kernel
theorem dX11_areSo_16 : decode cX11_areSo 16 = .ok (.bipush 48, 2) := by decide +kernel
theorem dX11_areSo_18 : decode cX11_areSo 18 = .ok (.iadd, 1) := by decide +kernel
theorem dX11_areSo_19 : decode cX11_areSo 19 = .ok (.aload_n 0, 1) := by decide +kernel
theorem dX11_areSo_20 : decode cX11_areSo 20 = .ok (.getfield 55, 3) := by decide +kernel
theorem dX11_areSo_23 : decode cX11_areSo 23 = .ok (.iconst 3, 1) := by decide +kernel
theorem dX11_areSo_24 : decode cX11_areSo 24 = .ok (.iload 4, 2) := by decide +kernel
theorem dX11_areSo_26 : decode cX11_areSo 26 = .ok (.imul, 1) := by decide +kernel
theorem dX11_areSo_27 : decode cX11_areSo 27 = .ok (.iaload, 1) := by decide +kernel
theorem dX11_areSo_28 : decode cX11_areSo 28 = .ok (.iadd, 1) := by decide +kernel
theorem dX11_areSo_29 : decode cX11_areSo 29 = .ok (.iaload, 1) := by decide +kernel
theorem dX11_areSo_30 : decode cX11_areSo 30 = .ok (.istore 5, 2) := by decide +kernel
theorem dX11_areSo_32 : decode cX11_areSo 32 = .ok (.aload_n 0, 1) := by decide +kernel
theorem dX11_areSo_33 : decode cX11_areSo 33 = .ok (.getfield 55, 3) := by decide +kernel
theorem dX11_areSo_36 : decode cX11_areSo 36 = .ok (.iconst 3, 1) := by decide +kernel
theorem dX11_areSo_37 : decode cX11_areSo 37 = .ok (.iload 4, 2) := by decide +kernel
theorem dX11_areSo_39 : decode cX11_areSo 39 = .ok (.imul, 1) := by decide +kernel
theorem dX11_areSo_40 : decode cX11_areSo 40 = .ok (.iconst 2, 1) := by decide +kernel
theorem dX11_areSo_41 : decode cX11_areSo 41 = .ok (.iadd, 1) := by decide +kernel
theorem dX11_areSo_42 : decode cX11_areSo 42 = .ok (.iaload, 1) := by decide +kernel
theorem dX11_areSo_43 : decode cX11_areSo 43 = .ok (.istore 6, 2) := by decide +kernel
theorem dX11_areSo_45 : decode cX11_areSo 45 = .ok (.aload_n 0, 1) := by decide +kernel
theorem dX11_areSo_46 : decode cX11_areSo 46 = .ok (.getfield 55, 3) := by decide +kernel
theorem dX11_areSo_49 : decode cX11_areSo 49 = .ok (.iconst 3, 1) := by decide +kernel
theorem dX11_areSo_50 : decode cX11_areSo 50 = .ok (.iload 4, 2) := by decide +kernel
theorem dX11_areSo_52 : decode cX11_areSo 52 = .ok (.imul, 1) := by decide +kernel
theorem dX11_areSo_53 : decode cX11_areSo 53 = .ok (.iconst 1, 1) := by decide +kernel
theorem dX11_areSo_54 : decode cX11_areSo 54 = .ok (.iadd, 1) := by decide +kernel
theorem dX11_areSo_55 : decode cX11_areSo 55 = .ok (.iaload, 1) := by decide +kernel
theorem dX11_areSo_56 : decode cX11_areSo 56 = .ok (.istore 7, 2) := by decide +kernel
theorem dX11_areSo_58 : decode cX11_areSo 58 = .ok (.iload_n 3, 1) := by decide +kernel
theorem dX11_areSo_59 : decode cX11_areSo 59 = .ok (.ifCond .eq 61, 3) := by decide +kernel
theorem dX11_areSo_62 : decode cX11_areSo 62 = .ok (.iload 7, 2) := by decide +kernel
theorem dX11_areSo_64 : decode cX11_areSo 64 = .ok (.ifCond .ne 13, 3) := by decide +kernel
theorem dX11_areSo_67 : decode cX11_areSo 67 = .ok (.iload 5, 2) := by decide +kernel
theorem dX11_areSo_69 : decode cX11_areSo 69 = .ok (.iload 6, 2) := by decide +kernel
theorem dX11_areSo_71 : decode cX11_areSo 71 = .ok (.if_icmp .ge 49, 3) := by decide +kernel
theorem dX11_areSo_74 : decode cX11_areSo 74 = .ok (.goto 42, 3) := by decide +kernel
theorem dX11_areSo_77 : decode cX11_areSo 77 = .ok (.iload 7, 2) := by decide +kernel
theorem dX11_areSo_79 : decode cX11_areSo 79 = .ok (.iconst 1, 1) := by decide +kernel
theorem dX11_areSo_80 : decode cX11_areSo 80 = .ok (.if_icmp .ne 13, 3) := by decide +kernel
theorem dX11_areSo_83 : decode cX11_areSo 83 = .ok (.iload 5, 2) := by decide +kernel
theorem dX11_areSo_85 : decode cX11_areSo 85 = .ok (.iload 6, 2) := by decide +kernel
theorem dX11_areSo_87 : decode cX11_areSo 87 = .ok (.if_icmp .ne 33, 3) := by decide +kernel
theorem dX11_areSo_90 : decode cX11_areSo 90 = .ok (.goto 26, 3) := by decide +kernel
theorem dX11_areSo_93 : decode cX11_areSo 93 = .ok (.iload 7, 2) := by decide +kernel
theorem dX11_areSo_95 : decode cX11_areSo 95 = .ok (.iconst 2, 1) := by decide +kernel
theorem dX11_areSo_96 : decode cX11_areSo 96 = .ok (.if_icmp .ne 13, 3) := by decide +kernel
theorem dX11_areSo_99 : decode cX11_areSo 99 = .ok (.iload 5, 2) := by decide +kernel
theorem dX11_areSo_101 : decode cX11_areSo 101 = .ok (.iload 6, 2) := by decide +kernel
theorem dX11_areSo_103 : decode cX11_areSo 103 = .ok (.if_icmp .le 17, 3) := by decide +kernel
theorem dX11_areSo_106 : decode cX11_areSo 106 = .ok (.goto 10, 3) := by decide +kernel
theorem dX11_areSo_109 : decode cX11_areSo 109 = .ok (.iload 5, 2) := by decide +kernel
theorem dX11_areSo_111 : decode cX11_areSo 111 = .ok (.iload 6, 2) := by decide +kernel
theorem dX11_areSo_113 : decode cX11_areSo 113 = .ok (.if_icmp .eq 7, 3) := by decide +kernel
theorem dX11_areSo_116 : decode cX11_areSo 116 = .ok (.iconst 1, 1) := by decide +kernel
theorem dX11_areSo_117 : decode cX11_areSo 117 = .ok (.goto 4, 3) := by decide +kernel
theorem dX11_areSo_120 : decode cX11_areSo 120 = .ok (.iconst 0, 1) := by decide +kernel
theorem dX11_areSo_121 : decode cX11_areSo 121 = .ok (.istore_n 3, 1) := by decide +kernel
theorem dX11_areSo_122 : decode cX11_areSo 122 = .ok (.iinc 4 1, 3) := by decide +kernel
theorem dX11_areSo_125 : decode cX11_areSo 125 = .ok (.goto (-120), 3) := by decide +kernel
theorem dX11_areSo_128 : decode cX11_areSo 128 = .ok (.iload_n 3, 1) := by decide +kernel
theorem dX11_areSo_129 : decode cX11_areSo 129 = .ok (.ireturn, 1) := by decide +kernel
theorem dX11_back_0 : decode cX11_back 0 = .ok (.aload_n 0, 1) := by decide +kernel
theorem dX11_back_1 : decode cX11_back 1 = .ok (.getfield 289, 3) := by decide +kernel
theorem dX11_back_4 : decode cX11_back 4 = .ok (.ifCond .ne 6, 3) := by decide +kernel
theorem dX11_back_7 : decode cX11_back 7 = .ok (.bipush (-3), 2) := by decide +kernel
theorem dX11_back_9 : decode cX11_back 9 = .ok (.ireturn, 1) := by decide +kernel
theorem dX11_back_10 : decode cX11_back 10 = .ok (.aload_n 0, 1) := by decide +kernel
theorem dX11_back_11 : decode cX11_back 11 = .ok (.getfield 13, 3) := by decide +kernel
theorem dX11_back_14 : decode cX11_back 14 = .ok (.iconst 0, 1) := by decide +kernel
theorem dX11_back_15 : decode cX11_back 15 = .ok (.aload_n 0, 1) := by decide +kernel
theorem dX11_back_16 : decode cX11_back 16 = .ok (.getfield 9, 3) := by decide +kernel
theorem dX11_back_19 : decode cX11_back 19 = .ok (.iconst 0, 1) := by decide +kernel
theorem dX11_back_20 : decode cX11_back 20 = .ok (.sipush 253, 3) := by decide +kernel
theorem dX11_back_23 : decode cX11_back 23 = .ok (.invokestatic 146, 3) := by decide +kernel
theorem dX11_back_26 : decode cX11_back 26 = .ok (.iconst 0, 1) := by decide +kernel
theorem dX11_back_27 : decode cX11_back 27 = .ok (.istore_n 1, 1) := by decide +kernel
theorem dX11_back_28 : decode cX11_back 28 = .ok (.iload_n 1, 1) := by decide +kernel
theorem dX11_back_29 : decode cX11_back 29 = .ok (.iconst 4, 1) := by decide +kernel
theorem dX11_back_30 : decode cX11_back 30 = .ok (.if_icmp .ge 23, 3) := by decide +kernel
theorem dX11_back_33 : decode cX11_back 33 = .ok (.aload_n 0, 1) := by decide +kernel
theorem dX11_back_34 : decode cX11_back 34 = .ok (.getfield 19, 3) := by decide +kernel
theorem dX11_back_37 : decode cX11_back 37 = .ok (.iload_n 1, 1) := by decide +kernel
theorem dX11_back_38 : decode cX11_back 38 = .ok (.iconst 0, 1) := by decide +kernel
theorem dX11_back_39 : decode cX11_back 39 = .ok (.iastore, 1) := by decide +kernel
theorem dX11_back_40 : decode cX11_back 40 = .ok (.aload_n 0, 1) := by decide +kernel
theorem dX11_back_41 : decode cX11_back 41 = .ok (.getfield 22, 3) := by decide +kernel
theorem dX11_back_44 : decode cX11_back 44 = .ok (.iload_n 1, 1) := by decide +kernel
theorem dX11_back_45 : decode cX11_back 45 = .ok (.iconst 0, 1) := by decide +kernel
theorem dX11_back_46 : decode cX11_back 46 = .ok (.iastore, 1) := by decide +kernel
theorem dX11_back_47 : decode cX11_back 47 = .ok (.iinc 1 1, 3) := by decide +kernel
theorem dX11_back_50 : decode cX11_back 50 = .ok (.goto (-22), 3) := by decide +kernel
theorem dX11_back_53 : decode cX11_back 53 = .ok (.aload_n 0, 1) := by decide +kernel
theorem dX11_back_54 : decode cX11_back 54 = .ok (.getfield 9, 3) := by decide +kernel
theorem dX11_back_57 : decode cX11_back 57 = .ok (.bipush 52, 2) := by decide +kernel
theorem dX11_back_59 : decode cX11_back 59 = .ok (.iaload, 1) := by decide +kernel
theorem dX11_back_60 : decode cX11_back 60 = .ok (.ireturn, 1) := by decide +kernel
theorem dX11_cause_0 : decode cX11_cause 0 = .ok (.iload_n 1, 1) := by decide +kernel
theorem dX11_cause_1 : decode cX11_cause 1 = .ok (.ifCond .lt 13, 3) := by decide +kernel
theorem dX11_cause_4 : decode cX11_cause 4 = .ok (.iload_n 2, 1) := by decide +kernel
theorem dX11_cause_5 : decode cX11_cause 5 = .ok (.i2l, 1) := by decide +kernel
theorem dX11_cause_6 : decode cX11_cause 6 = .ok (.lconst 0, 1) := by decide +kernel
theorem dX11_cause_7 : decode cX11_cause 7 = .ok (.lconst 1, 1) := by decide +kernel
theorem dX11_cause_8 : decode cX11_cause 8 = .ok (.invokestatic 64, 3) := by decide +kernel
theorem dX11_cause_11 : decode cX11_cause 11 = .ok (.ifCond .ne 5, 3) := by decide +kernel
theorem dX11_cause_14 : decode cX11_cause 14 = .ok (.iconst (-1), 1) := by decide +kernel
theorem dX11_cause_15 : decode cX11_cause 15 = .ok (.ireturn, 1) := by decide +kernel
theorem dX11_cause_16 : decode cX11_cause 16 = .ok (.iload_n 1, 1) := by decide +kernel
theorem dX11_cause_17 : decode cX11_cause 17 = .ok (.aload_n 0, 1) := by decide +kernel
theorem dX11_cause_18 : decode cX11_cause 18 = .ok (.getfield 130, 3) := by decide +kernel
theorem dX11_cause_21 : decode cX11_cause 21 = .ok (.if_icmp .lt 8, 3) := by decide +kernel
theorem dX11_cause_24 : decode cX11_cause 24 = .ok (.bipush (-5), 2) := by decide +kernel
theorem dX11_cause_26 : decode cX11_cause 26 = .ok (.goto 22, 3) := by decide +kernel
theorem dX11_cause_29 : decode cX11_cause 29 = .ok (.iload_n 2, 1) := by decide +kernel
theorem dX11_cause_30 : decode cX11_cause 30 = .ok (.ifCond .ne 12, 3) := by decide +kernel
theorem dX11_cause_33 : decode cX11_cause 33 = .ok (.aload_n 0, 1) := by decide +kernel
theorem dX11_cause_34 : decode cX11_cause 34 = .ok (.getfield 34, 3) := by decide +kernel
theorem dX11_cause_37 : decode cX11_cause 37 = .ok (.iload_n 1, 1) := by decide +kernel
theorem dX11_cause_38 : decode cX11_cause 38 = .ok (.iaload, 1) := by decide +kernel
theorem dX11_cause_39 : decode cX11_cause 39 = .ok (.goto 9, 3) := by decide +kernel
theorem dX11_cause_42 : decode cX11_cause 42 = .ok (.aload_n 0, 1) := by decide +kernel
theorem dX11_cause_43 : decode cX11_cause 43 = .ok (.getfield 37, 3) := by decide +kernel
theorem dX11_cause_46 : decode cX11_cause 46 = .ok (.iload_n 1, 1) := by decide +kernel
theorem dX11_cause_47 : decode cX11_cause 47 = .ok (.iaload, 1) := by decide +kernel
theorem dX11_cause_48 : decode cX11_cause 48 = .ok (.ireturn, 1) := by decide +kernel
theorem dX11_cell_0 : decode cX11_cell 0 = .ok (.iload_n 1, 1) := by decide +kernel
theorem dX11_cell_1 : decode cX11_cell 1 = .ok (.invokestatic 76, 3) := by decide +kernel
theorem dX11_cell_4 : decode cX11_cell 4 = .ok (.ifCond .eq 15, 3) := by decide +kernel
theorem dX11_cell_7 : decode cX11_cell 7 = .ok (.aload_n 0, 1) := by decide +kernel
theorem dX11_cell_8 : decode cX11_cell 8 = .ok (.getfield 9, 3) := by decide +kernel
theorem dX11_cell_11 : decode cX11_cell 11 = .ok (.bipush 48, 2) := by decide +kernel
theorem dX11_cell_13 : decode cX11_cell 13 = .ok (.iload_n 1, 1) := by decide +kernel
theorem dX11_cell_14 : decode cX11_cell 14 = .ok (.iadd, 1) := by decide +kernel
theorem dX11_cell_15 : decode cX11_cell 15 = .ok (.iaload, 1) := by decide +kernel
theorem dX11_cell_16 : decode cX11_cell 16 = .ok (.goto 5, 3) := by decide +kernel
theorem dX11_cell_19 : decode cX11_cell 19 = .ok (.bipush (-100), 2) := by decide +kernel
theorem dX11_cell_21 : decode cX11_cell 21 = .ok (.ireturn, 1) := by decide +kernel
theorem dX11_chosen_0 : decode cX11_chosen 0 = .ok (.iconst (-1), 1) := by decide +kernel
theorem dX11_chosen_1 : decode cX11_chosen 1 = .ok (.istore_n 2, 1) := by decide +kernel
theorem dX11_chosen_2 : decode cX11_chosen 2 = .ok (.iload_n 1, 1) := by decide +kernel
theorem dX11_chosen_3 : decode cX11_chosen 3 = .ok (.iconst 1, 1) := by decide +kernel
theorem dX11_chosen_4 : decode cX11_chosen 4 = .ok (.if_icmp .ne 15, 3) := by decide +kernel
theorem dX11_chosen_7 : decode cX11_chosen 7 = .ok (.aload_n 0, 1) := by decide +kernel
theorem dX11_chosen_8 : decode cX11_chosen 8 = .ok (.getfield 9, 3) := by decide +kernel
theorem dX11_chosen_11 : decode cX11_chosen 11 = .ok (.bipush 56, 2) := by decide +kernel
theorem dX11_chosen_13 : decode cX11_chosen 13 = .ok (.iaload, 1) := by decide +kernel
theorem dX11_chosen_14 : decode cX11_chosen 14 = .ok (.iconst 1, 1) := by decide +kernel
theorem dX11_chosen_15 : decode cX11_chosen 15 = .ok (.iadd, 1) := by decide +kernel
theorem dX11_chosen_16 : decode cX11_chosen 16 = .ok (.goto 4, 3) := by decide +kernel
theorem dX11_chosen_19 : decode cX11_chosen 19 = .ok (.iconst 0, 1) := by decide +kernel
theorem dX11_chosen_20 : decode cX11_chosen 20 = .ok (.istore_n 3, 1) := by decide +kernel
theorem dX11_chosen_21 : decode cX11_chosen 21 = .ok (.iload_n 3, 1) := by decide +kernel
theorem dX11_chosen_22 : decode cX11_chosen 22 = .ok (.ifCond .ge 7, 3) := by decide +kernel
theorem dX11_chosen_25 : decode cX11_chosen 25 = .ok (.iconst 0, 1) := by decide +kernel
theorem dX11_chosen_26 : decode cX11_chosen 26 = .ok (.goto 4, 3) := by decide +kernel
theorem dX11_chosen_29 : decode cX11_chosen 29 = .ok (.iload_n 3, 1) := by decide +kernel
theorem dX11_chosen_30 : decode cX11_chosen 30 = .ok (.istore_n 3, 1) := by decide +kernel
theorem dX11_chosen_31 : decode cX11_chosen 31 = .ok (.iconst 0, 1) := by decide +kernel
theorem dX11_chosen_32 : decode cX11_chosen 32 = .ok (.istore 4, 2) := by decide +kernel
theorem dX11_chosen_34 : decode cX11_chosen 34 = .ok (.iload 4, 2) := by decide +kernel
theorem dX11_chosen_36 : decode cX11_chosen 36 = .ok (.aload_n 0, 1) := by decide +kernel
theorem dX11_chosen_37 : decode cX11_chosen 37 = .ok (.getfield 9, 3) := by decide +kernel
theorem dX11_chosen_40 : decode cX11_chosen 40 = .ok (.bipush 52, 2) := by decide +kernel
theorem dX11_chosen_42 : decode cX11_chosen 42 = .ok (.iaload, 1) := by decide +kernel
theorem dX11_chosen_43 : decode cX11_chosen 43 = .ok (.if_icmp .ge 60, 3) := by decide +kernel
theorem dX11_chosen_46 : decode cX11_chosen 46 = .ok (.iload_n 3, 1) := by decide +kernel
theorem dX11_chosen_47 : decode cX11_chosen 47 = .ok (.iload 4, 2) := by decide +kernel
theorem dX11_chosen_49 : decode cX11_chosen 49 = .ok (.iadd, 1) := by decide +kernel
theorem dX11_chosen_50 : decode cX11_chosen 50 = .ok (.aload_n 0, 1) := by decide +kernel
theorem dX11_chosen_51 : decode cX11_chosen 51 = .ok (.getfield 9, 3) := by decide +kernel
theorem dX11_chosen_54 : decode cX11_chosen 54 = .ok (.bipush 52, 2) := by decide +kernel
theorem dX11_chosen_56 : decode cX11_chosen 56 = .ok (.iaload, 1) := by decide +kernel
theorem dX11_chosen_57 : decode cX11_chosen 57 = .ok (.irem, 1) := by decide +kernel
theorem dX11_chosen_58 : decode cX11_chosen 58 = .ok (.istore 5, 2) := by decide +kernel
theorem dX11_chosen_60 : decode cX11_chosen 60 = .ok (.aload_n 0, 1) := by decide +kernel
theorem dX11_chosen_61 : decode cX11_chosen 61 = .ok (.iload 5, 2) := by decide +kernel
theorem dX11_chosen_63 : decode cX11_chosen 63 = .ok (.invokevirtual 191, 3) := by decide +kernel
theorem dX11_chosen_66 : decode cX11_chosen 66 = .ok (.ifCond .eq 16, 3) := by decide +kernel
theorem dX11_chosen_69 : decode cX11_chosen 69 = .ok (.iload_n 2, 1) := by decide +kernel
theorem dX11_chosen_70 : decode cX11_chosen 70 = .ok (.ifCond .lt 8, 3) := by decide +kernel
theorem dX11_chosen_73 : decode cX11_chosen 73 = .ok (.iload_n 1, 1) := by decide +kernel
theorem dX11_chosen_74 : decode cX11_chosen 74 = .ok (.iconst 2, 1) := by decide +kernel
theorem dX11_chosen_75 : decode cX11_chosen 75 = .ok (.if_icmp .ne 7, 3) := by decide +kernel
theorem dX11_chosen_78 : decode cX11_chosen 78 = .ok (.iconst 1, 1) := by decide +kernel
theorem dX11_chosen_79 : decode cX11_chosen 79 = .ok (.goto 4, 3) := by decide +kernel
theorem dX11_chosen_82 : decode cX11_chosen 82 = .ok (.iconst 0, 1) := by decide +kernel
theorem dX11_chosen_83 : decode cX11_chosen 83 = .ok (.istore 6, 2) := by decide +kernel
theorem dX11_chosen_85 : decode cX11_chosen 85 = .ok (.iload 6, 2) := by decide +kernel
theorem dX11_chosen_87 : decode cX11_chosen 87 = .ok (.ifCond .eq 8, 3) := by decide +kernel
theorem dX11_chosen_90 : decode cX11_chosen 90 = .ok (.iload 5, 2) := by decide +kernel
theorem dX11_chosen_92 : decode cX11_chosen 92 = .ok (.goto 4, 3) := by decide +kernel
theorem dX11_chosen_95 : decode cX11_chosen 95 = .ok (.iload_n 2, 1) := by decide +kernel
theorem dX11_chosen_96 : decode cX11_chosen 96 = .ok (.istore_n 2, 1) := by decide +kernel
theorem dX11_chosen_97 : decode cX11_chosen 97 = .ok (.iinc 4 1, 3) := by decide +kernel
theorem dX11_chosen_100 : decode cX11_chosen 100 = .ok (.goto (-66), 3) := by decide +kernel
theorem dX11_chosen_103 : decode cX11_chosen 103 = .ok (.iload_n 2, 1) := by decide +kernel
theorem dX11_chosen_104 : decode cX11_chosen 104 = .ok (.ireturn, 1) := by decide +kernel
theorem dX11_clear_0 : decode cX11_clear 0 = .ok (.aload_n 0, 1) := by decide +kernel
theorem dX11_clear_1 : decode cX11_clear 1 = .ok (.getfield 85, 3) := by decide +kernel
theorem dX11_clear_4 : decode cX11_clear 4 = .ok (.istore_n 1, 1) := by decide +kernel
theorem dX11_clear_5 : decode cX11_clear 5 = .ok (.aload_n 0, 1) := by decide +kernel
theorem dX11_clear_6 : decode cX11_clear 6 = .ok (.iconst 0, 1) := by decide +kernel
theorem dX11_clear_7 : decode cX11_clear 7 = .ok (.putfield 85, 3) := by decide +kernel
theorem dX11_clear_10 : decode cX11_clear 10 = .ok (.iload_n 1, 1) := by decide +kernel
theorem dX11_clear_11 : decode cX11_clear 11 = .ok (.ireturn, 1) := by decide +kernel
theorem dX11_comes_0 : decode cX11_comes 0 = .ok (.aload_n 0, 1) := by decide +kernel
theorem dX11_comes_1 : decode cX11_comes 1 = .ok (.getfield 16, 3) := by decide +kernel
theorem dX11_comes_4 : decode cX11_comes 4 = .ok (.iload_n 2, 1) := by decide +kernel
theorem dX11_comes_5 : decode cX11_comes 5 = .ok (.iconst 4, 1) := by decide +kernel
theorem dX11_comes_6 : decode cX11_comes 6 = .ok (.iload_n 3, 1) := by decide +kernel
theorem dX11_comes_7 : decode cX11_comes 7 = .ok (.imul, 1) := by decide +kernel
theorem dX11_comes_8 : decode cX11_comes 8 = .ok (.iadd, 1) := by decide +kernel
theorem dX11_comes_9 : decode cX11_comes 9 = .ok (.aload_n 0, 1) := by decide +kernel
theorem dX11_comes_10 : decode cX11_comes 10 = .ok (.getfield 16, 3) := by decide +kernel
theorem dX11_comes_13 : decode cX11_comes 13 = .ok (.iload_n 1, 1) := by decide +kernel
theorem dX11_comes_14 : decode cX11_comes 14 = .ok (.iload_n 3, 1) := by decide +kernel
theorem dX11_comes_15 : decode cX11_comes 15 = .ok (.iadd, 1) := by decide +kernel
theorem dX11_comes_16 : decode cX11_comes 16 = .ok (.iaload, 1) := by decide +kernel
theorem dX11_comes_17 : decode cX11_comes 17 = .ok (.iadd, 1) := by decide +kernel
theorem dX11_comes_18 : decode cX11_comes 18 = .ok (.iload 4, 2) := by decide +kernel
theorem dX11_comes_20 : decode cX11_comes 20 = .ok (.iconst 1, 1) := by decide +kernel
theorem dX11_comes_21 : decode cX11_comes 21 = .ok (.iadd, 1) := by decide +kernel
theorem dX11_comes_22 : decode cX11_comes 22 = .ok (.iastore, 1) := by decide +kernel
theorem dX11_comes_23 : decode cX11_comes 23 = .ok (.aload_n 0, 1) := by decide +kernel
theorem dX11_comes_24 : decode cX11_comes 24 = .ok (.getfield 16, 3) := by decide +kernel
theorem dX11_comes_27 : decode cX11_comes 27 = .ok (.iload_n 1, 1) := by decide +kernel
theorem dX11_comes_28 : decode cX11_comes 28 = .ok (.iload_n 3, 1) := by decide +kernel
theorem dX11_comes_29 : decode cX11_comes 29 = .ok (.iadd, 1) := by decide +kernel
theorem dX11_comes_30 : decode cX11_comes 30 = .ok (.dup2, 1) := by decide +kernel
theorem dX11_comes_31 : decode cX11_comes 31 = .ok (.iaload, 1) := by decide +kernel
theorem dX11_comes_32 : decode cX11_comes 32 = .ok (.iconst 1, 1) := by decide +kernel
theorem dX11_comes_33 : decode cX11_comes 33 = .ok (.iadd, 1) := by decide +kernel
theorem dX11_comes_34 : decode cX11_comes 34 = .ok (.iastore, 1) := by decide +kernel
theorem dX11_comes_35 : decode cX11_comes 35 = .ok (.return_, 1) := by decide +kernel
theorem dX11_condition_0 : decode cX11_condition 0 = .ok (.iload_n 1, 1) := by decide +kernel
theorem dX11_condition_1 : decode cX11_condition 1 = .ok (.iconst (-1), 1) := by decide +kernel
theorem dX11_condition_2 : decode cX11_condition 2 = .ok (.if_icmp .ne 10, 3) := by decide +kernel
theorem dX11_condition_5 : decode cX11_condition 5 = .ok (.aload_n 0, 1) := by decide +kernel
theorem dX11_condition_6 : decode cX11_condition 6 = .ok (.iconst 0, 1) := by decide +kernel
theorem dX11_condition_7 : decode cX11_condition 7 = .ok (.putfield 218, 3) := by decide +kernel
theorem dX11_condition_10 : decode cX11_condition 10 = .ok (.iconst 0, 1) := by decide +kernel
theorem dX11_condition_11 : decode cX11_condition 11 = .ok (.ireturn, 1) := by decide +kernel
theorem dX11_condition_12 : decode cX11_condition 12 = .ok (.iload_n 1, 1) := by decide +kernel
theorem dX11_condition_13 : decode cX11_condition 13 = .ok (.invokestatic 76, 3) := by decide +kernel
theorem dX11_condition_16 : decode cX11_condition 16 = .ok (.ifCond .eq 15, 3) := by decide +kernel
theorem dX11_condition_19 : decode cX11_condition 19 = .ok (.iload_n 2, 1) := by decide +kernel
theorem dX11_condition_20 : decode cX11_condition 20 = .ok (.i2l, 1) := by decide +kernel
theorem dX11_condition_21 : decode cX11_condition 21 = .ok (.lconst 0, 1) := by decide +kernel
theorem dX11_condition_22 : decode cX11_condition 22 = .ok (.ldc2_w 70, 3) := by decide +kernel
theorem dX11_condition_25 : decode cX11_condition 25 = .ok (.invokestatic 64, 3) := by decide +kernel
theorem dX11_condition_28 : decode cX11_condition 28 = .ok (.ifCond .ne 5, 3) := by decide +kernel
theorem dX11_condition_31 : decode cX11_condition 31 = .ok (.iconst (-1), 1) := by decide +kernel
theorem dX11_condition_32 : decode cX11_condition 32 = .ok (.ireturn, 1) := by decide +kernel
theorem dX11_condition_33 : decode cX11_condition 33 = .ok (.iload_n 3, 1) := by decide +kernel
theorem dX11_condition_34 : decode cX11_condition 34 = .ok (.i2l, 1) := by decide +kernel
theorem dX11_condition_35 : decode cX11_condition 35 = .ok (.ldc2_w 79, 3) := by decide +kernel
theorem dX11_condition_38 : decode cX11_condition 38 = .ok (.ldc2_w 81, 3) := by decide +kernel
theorem dX11_condition_41 : decode cX11_condition 41 = .ok (.invokestatic 64, 3) := by decide +kernel
theorem dX11_condition_44 : decode cX11_condition 44 = .ok (.ifCond .ne 6, 3) := by decide +kernel
theorem dX11_condition_47 : decode cX11_condition 47 = .ok (.bipush (-2), 2) := by decide +kernel
theorem dX11_condition_49 : decode cX11_condition 49 = .ok (.ireturn, 1) := by decide +kernel
theorem dX11_condition_50 : decode cX11_condition 50 = .ok (.aload_n 0, 1) := by decide +kernel
theorem dX11_condition_51 : decode cX11_condition 51 = .ok (.getfield 218, 3) := by decide +kernel
theorem dX11_condition_54 : decode cX11_condition 54 = .ok (.iconst 4, 1) := by decide +kernel
theorem dX11_condition_55 : decode cX11_condition 55 = .ok (.if_icmp .ne 6, 3) := by decide +kernel
theorem dX11_condition_58 : decode cX11_condition 58 = .ok (.bipush (-4), 2) := by decide +kernel
theorem dX11_condition_60 : decode cX11_condition 60 = .ok (.ireturn, 1) := by decide +kernel
theorem dX11_condition_61 : decode cX11_condition 61 = .ok (.aload_n 0, 1) := by decide +kernel
theorem dX11_condition_62 : decode cX11_condition 62 = .ok (.getfield 55, 3) := by decide +kernel
theorem dX11_condition_65 : decode cX11_condition 65 = .ok (.iconst 3, 1) := by decide +kernel
theorem dX11_condition_66 : decode cX11_condition 66 = .ok (.aload_n 0, 1) := by decide +kernel
theorem dX11_condition_67 : decode cX11_condition 67 = .ok (.getfield 218, 3) := by decide +kernel
theorem dX11_condition_70 : decode cX11_condition 70 = .ok (.imul, 1) := by decide +kernel
theorem dX11_condition_71 : decode cX11_condition 71 = .ok (.iload_n 1, 1) := by decide +kernel
theorem dX11_condition_72 : decode cX11_condition 72 = .ok (.iastore, 1) := by decide +kernel
theorem dX11_condition_73 : decode cX11_condition 73 = .ok (.aload_n 0, 1) := by decide +kernel
theorem dX11_condition_74 : decode cX11_condition 74 = .ok (.getfield 55, 3) := by decide +kernel
theorem dX11_condition_77 : decode cX11_condition 77 = .ok (.iconst 3, 1) := by decide +kernel
theorem dX11_condition_78 : decode cX11_condition 78 = .ok (.aload_n 0, 1) := by decide +kernel
theorem dX11_condition_79 : decode cX11_condition 79 = .ok (.getfield 218, 3) := by decide +kernel
theorem dX11_condition_82 : decode cX11_condition 82 = .ok (.imul, 1) := by decide +kernel
theorem dX11_condition_83 : decode cX11_condition 83 = .ok (.iconst 1, 1) := by decide +kernel
theorem dX11_condition_84 : decode cX11_condition 84 = .ok (.iadd, 1) := by decide +kernel
theorem dX11_condition_85 : decode cX11_condition 85 = .ok (.iload_n 2, 1) := by decide +kernel
theorem dX11_condition_86 : decode cX11_condition 86 = .ok (.iastore, 1) := by decide +kernel
theorem dX11_condition_87 : decode cX11_condition 87 = .ok (.aload_n 0, 1) := by decide +kernel
theorem dX11_condition_88 : decode cX11_condition 88 = .ok (.getfield 55, 3) := by decide +kernel
theorem dX11_condition_91 : decode cX11_condition 91 = .ok (.iconst 3, 1) := by decide +kernel
theorem dX11_condition_92 : decode cX11_condition 92 = .ok (.aload_n 0, 1) := by decide +kernel
theorem dX11_condition_93 : decode cX11_condition 93 = .ok (.getfield 218, 3) := by decide +kernel
theorem dX11_condition_96 : decode cX11_condition 96 = .ok (.imul, 1) := by decide +kernel
theorem dX11_condition_97 : decode cX11_condition 97 = .ok (.iconst 2, 1) := by decide +kernel
theorem dX11_condition_98 : decode cX11_condition 98 = .ok (.iadd, 1) := by decide +kernel
theorem dX11_condition_99 : decode cX11_condition 99 = .ok (.iload_n 3, 1) := by decide +kernel
theorem dX11_condition_100 : decode cX11_condition 100 = .ok (.iastore, 1) := by decide +kernel
theorem dX11_condition_101 : decode cX11_condition 101 = .ok (.aload_n 0, 1) := by decide +kernel
theorem dX11_condition_102 : decode cX11_condition 102 = .ok (.dup, 1) := by decide +kernel
theorem dX11_condition_103 : decode cX11_condition 103 = .ok (.getfield 218, 3) := by decide +kernel
theorem dX11_condition_106 : decode cX11_condition 106 = .ok (.iconst 1, 1) := by decide +kernel
theorem dX11_condition_107 : decode cX11_condition 107 = .ok (.iadd, 1) := by decide +kernel
theorem dX11_condition_108 : decode cX11_condition 108 = .ok (.putfield 218, 3) := by decide +kernel
theorem dX11_condition_111 : decode cX11_condition 111 = .ok (.aload_n 0, 1) := by decide +kernel
theorem dX11_condition_112 : decode cX11_condition 112 = .ok (.getfield 218, 3) := by decide +kernel
theorem dX11_condition_115 : decode cX11_condition 115 = .ok (.ireturn, 1) := by decide +kernel
theorem dX11_copies_0 : decode cX11_copies 0 = .ok (.iconst 0, 1) := by decide +kernel
theorem dX11_copies_1 : decode cX11_copies 1 = .ok (.istore 5, 2) := by decide +kernel
theorem dX11_copies_3 : decode cX11_copies 3 = .ok (.iload 5, 2) := by decide +kernel
theorem dX11_copies_5 : decode cX11_copies 5 = .ok (.iload 4, 2) := by decide +kernel
theorem dX11_copies_7 : decode cX11_copies 7 = .ok (.if_icmp .ge 21, 3) := by decide +kernel
theorem dX11_copies_10 : decode cX11_copies 10 = .ok (.aload_n 2, 1) := by decide +kernel
theorem dX11_copies_11 : decode cX11_copies 11 = .ok (.iload_n 3, 1) := by decide +kernel
theorem dX11_copies_12 : decode cX11_copies 12 = .ok (.iload 5, 2) := by decide +kernel
theorem dX11_copies_14 : decode cX11_copies 14 = .ok (.iadd, 1) := by decide +kernel
theorem dX11_copies_15 : decode cX11_copies 15 = .ok (.aload_n 0, 1) := by decide +kernel
theorem dX11_copies_16 : decode cX11_copies 16 = .ok (.iload_n 1, 1) := by decide +kernel
theorem dX11_copies_17 : decode cX11_copies 17 = .ok (.iload 5, 2) := by decide +kernel
theorem dX11_copies_19 : decode cX11_copies 19 = .ok (.iadd, 1) := by decide +kernel
theorem dX11_copies_20 : decode cX11_copies 20 = .ok (.iaload, 1) := by decide +kernel
theorem dX11_copies_21 : decode cX11_copies 21 = .ok (.iastore, 1) := by decide +kernel
theorem dX11_copies_22 : decode cX11_copies 22 = .ok (.iinc 5 1, 3) := by decide +kernel
theorem dX11_copies_25 : decode cX11_copies 25 = .ok (.goto (-22), 3) := by decide +kernel
theorem dX11_copies_28 : decode cX11_copies 28 = .ok (.return_, 1) := by decide +kernel
theorem dX11_deepest_0 : decode cX11_deepest 0 = .ok (.iconst 0, 1) := by decide +kernel
theorem dX11_deepest_1 : decode cX11_deepest 1 = .ok (.istore_n 1, 1) := by decide +kernel
theorem dX11_deepest_2 : decode cX11_deepest 2 = .ok (.iconst 0, 1) := by decide +kernel
theorem dX11_deepest_3 : decode cX11_deepest 3 = .ok (.istore_n 2, 1) := by decide +kernel
theorem dX11_deepest_4 : decode cX11_deepest 4 = .ok (.iload_n 2, 1) := by decide +kernel
theorem dX11_deepest_5 : decode cX11_deepest 5 = .ok (.aload_n 0, 1) := by decide +kernel
theorem dX11_deepest_6 : decode cX11_deepest 6 = .ok (.getfield 231, 3) := by decide +kernel
theorem dX11_deepest_9 : decode cX11_deepest 9 = .ok (.if_icmp .ge 30, 3) := by decide +kernel
theorem dX11_deepest_12 : decode cX11_deepest 12 = .ok (.aload_n 0, 1) := by decide +kernel
theorem dX11_deepest_13 : decode cX11_deepest 13 = .ok (.getfield 49, 3) := by decide +kernel
theorem dX11_deepest_16 : decode cX11_deepest 16 = .ok (.iload_n 2, 1) := by decide +kernel
theorem dX11_deepest_17 : decode cX11_deepest 17 = .ok (.iaload, 1) := by decide +kernel
theorem dX11_deepest_18 : decode cX11_deepest 18 = .ok (.iload_n 1, 1) := by decide +kernel
theorem dX11_deepest_19 : decode cX11_deepest 19 = .ok (.if_icmp .le 12, 3) := by decide +kernel
theorem dX11_deepest_22 : decode cX11_deepest 22 = .ok (.aload_n 0, 1) := by decide +kernel
theorem dX11_deepest_23 : decode cX11_deepest 23 = .ok (.getfield 49, 3) := by decide +kernel
theorem dX11_deepest_26 : decode cX11_deepest 26 = .ok (.iload_n 2, 1) := by decide +kernel
theorem dX11_deepest_27 : decode cX11_deepest 27 = .ok (.iaload, 1) := by decide +kernel
theorem dX11_deepest_28 : decode cX11_deepest 28 = .ok (.goto 4, 3) := by decide +kernel
theorem dX11_deepest_31 : decode cX11_deepest 31 = .ok (.iload_n 1, 1) := by decide +kernel
theorem dX11_deepest_32 : decode cX11_deepest 32 = .ok (.istore_n 1, 1) := by decide +kernel
theorem dX11_deepest_33 : decode cX11_deepest 33 = .ok (.iinc 2 1, 3) := by decide +kernel
theorem dX11_deepest_36 : decode cX11_deepest 36 = .ok (.goto (-32), 3) := by decide +kernel
theorem dX11_deepest_39 : decode cX11_deepest 39 = .ok (.iload_n 1, 1) := by decide +kernel
theorem dX11_deepest_40 : decode cX11_deepest 40 = .ok (.ireturn, 1) := by decide +kernel
theorem dX11_ends_0 : decode cX11_ends 0 = .ok (.aload_n 0, 1) := by decide +kernel
theorem dX11_ends_1 : decode cX11_ends 1 = .ok (.getfield 16, 3) := by decide +kernel
theorem dX11_ends_4 : decode cX11_ends 4 = .ok (.iconst 4, 1) := by decide +kernel
theorem dX11_ends_5 : decode cX11_ends 5 = .ok (.iload_n 1, 1) := by decide +kernel
theorem dX11_ends_6 : decode cX11_ends 6 = .ok (.iadd, 1) := by decide +kernel
theorem dX11_ends_7 : decode cX11_ends 7 = .ok (.iload_n 2, 1) := by decide +kernel
theorem dX11_ends_8 : decode cX11_ends 8 = .ok (.iastore, 1) := by decide +kernel
theorem dX11_ends_9 : decode cX11_ends 9 = .ok (.aload_n 0, 1) := by decide +kernel
theorem dX11_ends_10 : decode cX11_ends 10 = .ok (.iconst 0, 1) := by decide +kernel
theorem dX11_ends_11 : decode cX11_ends 11 = .ok (.putfield 157, 3) := by decide +kernel
theorem dX11_ends_14 : decode cX11_ends 14 = .ok (.iconst 0, 1) := by decide +kernel
theorem dX11_ends_15 : decode cX11_ends 15 = .ok (.istore_n 3, 1) := by decide +kernel
theorem dX11_ends_16 : decode cX11_ends 16 = .ok (.iload_n 3, 1) := by decide +kernel
theorem dX11_ends_17 : decode cX11_ends 17 = .ok (.iconst 3, 1) := by decide +kernel
theorem dX11_ends_18 : decode cX11_ends 18 = .ok (.if_icmp .ge 33, 3) := by decide +kernel
theorem dX11_ends_21 : decode cX11_ends 21 = .ok (.aload_n 0, 1) := by decide +kernel
theorem dX11_ends_22 : decode cX11_ends 22 = .ok (.iload_n 1, 1) := by decide +kernel
theorem dX11_ends_23 : decode cX11_ends 23 = .ok (.iload_n 3, 1) := by decide +kernel
theorem dX11_ends_24 : decode cX11_ends 24 = .ok (.invokevirtual 160, 3) := by decide +kernel
theorem dX11_ends_27 : decode cX11_ends 27 = .ok (.ifCond .eq 18, 3) := by decide +kernel
theorem dX11_ends_30 : decode cX11_ends 30 = .ok (.aload_n 0, 1) := by decide +kernel
theorem dX11_ends_31 : decode cX11_ends 31 = .ok (.dup, 1) := by decide +kernel
theorem dX11_ends_32 : decode cX11_ends 32 = .ok (.getfield 157, 3) := by decide +kernel
theorem dX11_ends_35 : decode cX11_ends 35 = .ok (.iconst 1, 1) := by decide +kernel
theorem dX11_ends_36 : decode cX11_ends 36 = .ok (.iadd, 1) := by decide +kernel
theorem dX11_ends_37 : decode cX11_ends 37 = .ok (.putfield 157, 3) := by decide +kernel
theorem dX11_ends_40 : decode cX11_ends 40 = .ok (.aload_n 0, 1) := by decide +kernel
theorem dX11_ends_41 : decode cX11_ends 41 = .ok (.iload_n 3, 1) := by decide +kernel
theorem dX11_ends_42 : decode cX11_ends 42 = .ok (.invokevirtual 163, 3) := by decide +kernel
theorem dX11_ends_45 : decode cX11_ends 45 = .ok (.iinc 3 1, 3) := by decide +kernel
theorem dX11_ends_48 : decode cX11_ends 48 = .ok (.goto (-32), 3) := by decide +kernel
theorem dX11_ends_51 : decode cX11_ends 51 = .ok (.return_, 1) := by decide +kernel
theorem dX11_enters_0 : decode cX11_enters 0 = .ok (.aload_n 0, 1) := by decide +kernel
theorem dX11_enters_1 : decode cX11_enters 1 = .ok (.getfield 16, 3) := by decide +kernel
theorem dX11_enters_4 : decode cX11_enters 4 = .ok (.bipush 12, 2) := by decide +kernel
theorem dX11_enters_6 : decode cX11_enters 6 = .ok (.iload_n 2, 1) := by decide +kernel
theorem dX11_enters_7 : decode cX11_enters 7 = .ok (.iadd, 1) := by decide +kernel
theorem dX11_enters_8 : decode cX11_enters 8 = .ok (.iaload, 1) := by decide +kernel
theorem dX11_enters_9 : decode cX11_enters 9 = .ok (.ifCond .ne 28, 3) := by decide +kernel
theorem dX11_enters_12 : decode cX11_enters 12 = .ok (.aload_n 0, 1) := by decide +kernel
theorem dX11_enters_13 : decode cX11_enters 13 = .ok (.getfield 16, 3) := by decide +kernel
theorem dX11_enters_16 : decode cX11_enters 16 = .ok (.bipush 12, 2) := by decide +kernel
theorem dX11_enters_18 : decode cX11_enters 18 = .ok (.iload_n 2, 1) := by decide +kernel
theorem dX11_enters_19 : decode cX11_enters 19 = .ok (.iadd, 1) := by decide +kernel
theorem dX11_enters_20 : decode cX11_enters 20 = .ok (.iload_n 1, 1) := by decide +kernel
theorem dX11_enters_21 : decode cX11_enters 21 = .ok (.iconst 1, 1) := by decide +kernel
theorem dX11_enters_22 : decode cX11_enters 22 = .ok (.iadd, 1) := by decide +kernel
theorem dX11_enters_23 : decode cX11_enters 23 = .ok (.iastore, 1) := by decide +kernel
theorem dX11_enters_24 : decode cX11_enters 24 = .ok (.aload_n 0, 1) := by decide +kernel
theorem dX11_enters_25 : decode cX11_enters 25 = .ok (.getfield 16, 3) := by decide +kernel
theorem dX11_enters_28 : decode cX11_enters 28 = .ok (.bipush 15, 2) := by decide +kernel
theorem dX11_enters_30 : decode cX11_enters 30 = .ok (.iload_n 2, 1) := by decide +kernel
theorem dX11_enters_31 : decode cX11_enters 31 = .ok (.iadd, 1) := by decide +kernel
theorem dX11_enters_32 : decode cX11_enters 32 = .ok (.iconst 1, 1) := by decide +kernel
theorem dX11_enters_33 : decode cX11_enters 33 = .ok (.iastore, 1) := by decide +kernel
theorem dX11_enters_34 : decode cX11_enters 34 = .ok (.goto 93, 3) := by decide +kernel
theorem dX11_enters_37 : decode cX11_enters 37 = .ok (.aload_n 0, 1) := by decide +kernel
theorem dX11_enters_38 : decode cX11_enters 38 = .ok (.iload_n 1, 1) := by decide +kernel
theorem dX11_enters_39 : decode cX11_enters 39 = .ok (.iload_n 2, 1) := by decide +kernel
theorem dX11_enters_40 : decode cX11_enters 40 = .ok (.invokevirtual 160, 3) := by decide +kernel
theorem dX11_enters_43 : decode cX11_enters 43 = .ok (.ifCond .eq 55, 3) := by decide +kernel
theorem dX11_enters_46 : decode cX11_enters 46 = .ok (.aload_n 0, 1) := by decide +kernel
theorem dX11_enters_47 : decode cX11_enters 47 = .ok (.aload_n 0, 1) := by decide +kernel
theorem dX11_enters_48 : decode cX11_enters 48 = .ok (.getfield 16, 3) := by decide +kernel
theorem dX11_enters_51 : decode cX11_enters 51 = .ok (.bipush 15, 2) := by decide +kernel
theorem dX11_enters_53 : decode cX11_enters 53 = .ok (.iload_n 2, 1) := by decide +kernel
theorem dX11_enters_54 : decode cX11_enters 54 = .ok (.iadd, 1) := by decide +kernel
theorem dX11_enters_55 : decode cX11_enters 55 = .ok (.iaload, 1) := by decide +kernel
theorem dX11_enters_56 : decode cX11_enters 56 = .ok (.iconst 1, 1) := by decide +kernel
theorem dX11_enters_57 : decode cX11_enters 57 = .ok (.iadd, 1) := by decide +kernel
theorem dX11_enters_58 : decode cX11_enters 58 = .ok (.bipush 10, 2) := by decide +kernel
theorem dX11_enters_60 : decode cX11_enters 60 = .ok (.if_icmp .ne 7, 3) := by decide +kernel
theorem dX11_enters_63 : decode cX11_enters 63 = .ok (.iconst 3, 1) := by decide +kernel
theorem dX11_enters_64 : decode cX11_enters 64 = .ok (.goto 4, 3) := by decide +kernel
theorem dX11_enters_67 : decode cX11_enters 67 = .ok (.iconst 0, 1) := by decide +kernel
theorem dX11_enters_68 : decode cX11_enters 68 = .ok (.putfield 166, 3) := by decide +kernel
theorem dX11_enters_71 : decode cX11_enters 71 = .ok (.aload_n 0, 1) := by decide +kernel
theorem dX11_enters_72 : decode cX11_enters 72 = .ok (.getfield 16, 3) := by decide +kernel
theorem dX11_enters_75 : decode cX11_enters 75 = .ok (.bipush 15, 2) := by decide +kernel
theorem dX11_enters_77 : decode cX11_enters 77 = .ok (.iload_n 2, 1) := by decide +kernel
theorem dX11_enters_78 : decode cX11_enters 78 = .ok (.iadd, 1) := by decide +kernel
theorem dX11_enters_79 : decode cX11_enters 79 = .ok (.dup2, 1) := by decide +kernel
theorem dX11_enters_80 : decode cX11_enters 80 = .ok (.iaload, 1) := by decide +kernel
theorem dX11_enters_81 : decode cX11_enters 81 = .ok (.aload_n 0, 1) := by decide +kernel
theorem dX11_enters_82 : decode cX11_enters 82 = .ok (.getfield 166, 3) := by decide +kernel
theorem dX11_enters_85 : decode cX11_enters 85 = .ok (.ifCond .ne 7, 3) := by decide +kernel
theorem dX11_enters_88 : decode cX11_enters 88 = .ok (.iconst 1, 1) := by decide +kernel
theorem dX11_enters_89 : decode cX11_enters 89 = .ok (.goto 4, 3) := by decide +kernel
theorem dX11_enters_92 : decode cX11_enters 92 = .ok (.iconst 0, 1) := by decide +kernel
theorem dX11_enters_93 : decode cX11_enters 93 = .ok (.iadd, 1) := by decide +kernel
theorem dX11_enters_94 : decode cX11_enters 94 = .ok (.iastore, 1) := by decide +kernel
theorem dX11_enters_95 : decode cX11_enters 95 = .ok (.goto 32, 3) := by decide +kernel
theorem dX11_enters_98 : decode cX11_enters 98 = .ok (.aload_n 0, 1) := by decide +kernel
theorem dX11_enters_99 : decode cX11_enters 99 = .ok (.getfield 16, 3) := by decide +kernel
theorem dX11_enters_102 : decode cX11_enters 102 = .ok (.iconst 4, 1) := by decide +kernel
theorem dX11_enters_103 : decode cX11_enters 103 = .ok (.iload_n 1, 1) := by decide +kernel
theorem dX11_enters_104 : decode cX11_enters 104 = .ok (.iadd, 1) := by decide +kernel
theorem dX11_enters_105 : decode cX11_enters 105 = .ok (.iconst 1, 1) := by decide +kernel
theorem dX11_enters_106 : decode cX11_enters 106 = .ok (.iastore, 1) := by decide +kernel
theorem dX11_enters_107 : decode cX11_enters 107 = .ok (.aload_n 0, 1) := by decide +kernel
theorem dX11_enters_108 : decode cX11_enters 108 = .ok (.getfield 16, 3) := by decide +kernel
theorem dX11_enters_111 : decode cX11_enters 111 = .ok (.bipush 8, 2) := by decide +kernel
theorem dX11_enters_113 : decode cX11_enters 113 = .ok (.iload_n 1, 1) := by decide +kernel
theorem dX11_enters_114 : decode cX11_enters 114 = .ok (.iadd, 1) := by decide +kernel
theorem dX11_enters_115 : decode cX11_enters 115 = .ok (.iconst 1, 1) := by decide +kernel
theorem dX11_enters_116 : decode cX11_enters 116 = .ok (.iastore, 1) := by decide +kernel
theorem dX11_enters_117 : decode cX11_enters 117 = .ok (.aload_n 0, 1) := by decide +kernel
theorem dX11_enters_118 : decode cX11_enters 118 = .ok (.bipush 18, 2) := by decide +kernel
theorem dX11_enters_120 : decode cX11_enters 120 = .ok (.bipush 21, 2) := by decide +kernel
theorem dX11_enters_122 : decode cX11_enters 122 = .ok (.iload_n 2, 1) := by decide +kernel
theorem dX11_enters_123 : decode cX11_enters 123 = .ok (.iload_n 1, 1) := by decide +kernel
theorem dX11_enters_124 : decode cX11_enters 124 = .ok (.invokevirtual 169, 3) := by decide +kernel
theorem dX11_enters_127 : decode cX11_enters 127 = .ok (.return_, 1) := by decide +kernel
theorem dX11_feed_0 : decode cX11_feed 0 = .ok (.iload_n 1, 1) := by decide +kernel
theorem dX11_feed_1 : decode cX11_feed 1 = .ok (.i2l, 1) := by decide +kernel
theorem dX11_feed_2 : decode cX11_feed 2 = .ok (.lconst 1, 1) := by decide +kernel
theorem dX11_feed_3 : decode cX11_feed 3 = .ok (.ldc2_w 83, 3) := by decide +kernel
theorem dX11_feed_6 : decode cX11_feed 6 = .ok (.invokestatic 64, 3) := by decide +kernel
theorem dX11_feed_9 : decode cX11_feed 9 = .ok (.ifCond .ne 6, 3) := by decide +kernel
theorem dX11_feed_12 : decode cX11_feed 12 = .ok (.bipush (-2), 2) := by decide +kernel
theorem dX11_feed_14 : decode cX11_feed 14 = .ok (.ireturn, 1) := by decide +kernel
theorem dX11_feed_15 : decode cX11_feed 15 = .ok (.aload_n 0, 1) := by decide +kernel
theorem dX11_feed_16 : decode cX11_feed 16 = .ok (.getfield 85, 3) := by decide +kernel
theorem dX11_feed_19 : decode cX11_feed 19 = .ok (.bipush 120, 2) := by decide +kernel
theorem dX11_feed_21 : decode cX11_feed 21 = .ok (.if_icmp .ne 6, 3) := by decide +kernel
theorem dX11_feed_24 : decode cX11_feed 24 = .ok (.bipush (-4), 2) := by decide +kernel
theorem dX11_feed_26 : decode cX11_feed 26 = .ok (.ireturn, 1) := by decide +kernel
theorem dX11_feed_27 : decode cX11_feed 27 = .ok (.aload_n 0, 1) := by decide +kernel
theorem dX11_feed_28 : decode cX11_feed 28 = .ok (.getfield 25, 3) := by decide +kernel
theorem dX11_feed_31 : decode cX11_feed 31 = .ok (.aload_n 0, 1) := by decide +kernel
theorem dX11_feed_32 : decode cX11_feed 32 = .ok (.getfield 85, 3) := by decide +kernel
theorem dX11_feed_35 : decode cX11_feed 35 = .ok (.iload_n 1, 1) := by decide +kernel
theorem dX11_feed_36 : decode cX11_feed 36 = .ok (.iastore, 1) := by decide +kernel
theorem dX11_feed_37 : decode cX11_feed 37 = .ok (.aload_n 0, 1) := by decide +kernel
theorem dX11_feed_38 : decode cX11_feed 38 = .ok (.dup, 1) := by decide +kernel
theorem dX11_feed_39 : decode cX11_feed 39 = .ok (.getfield 85, 3) := by decide +kernel
theorem dX11_feed_42 : decode cX11_feed 42 = .ok (.iconst 1, 1) := by decide +kernel
theorem dX11_feed_43 : decode cX11_feed 43 = .ok (.iadd, 1) := by decide +kernel
theorem dX11_feed_44 : decode cX11_feed 44 = .ok (.putfield 85, 3) := by decide +kernel
theorem dX11_feed_47 : decode cX11_feed 47 = .ok (.aload_n 0, 1) := by decide +kernel
theorem dX11_feed_48 : decode cX11_feed 48 = .ok (.getfield 85, 3) := by decide +kernel
theorem dX11_feed_51 : decode cX11_feed 51 = .ok (.ireturn, 1) := by decide +kernel
theorem dX11_field_0 : decode cX11_field 0 = .ok (.aload_n 0, 1) := by decide +kernel
theorem dX11_field_1 : decode cX11_field 1 = .ok (.getfield 9, 3) := by decide +kernel
theorem dX11_field_4 : decode cX11_field 4 = .ok (.bipush 61, 2) := by decide +kernel
theorem dX11_field_6 : decode cX11_field 6 = .ok (.bipush 48, 2) := by decide +kernel
theorem dX11_field_8 : decode cX11_field 8 = .ok (.iload_n 1, 1) := by decide +kernel
theorem dX11_field_9 : decode cX11_field 9 = .ok (.imul, 1) := by decide +kernel
theorem dX11_field_10 : decode cX11_field 10 = .ok (.iadd, 1) := by decide +kernel
theorem dX11_field_11 : decode cX11_field 11 = .ok (.iconst 4, 1) := by decide +kernel
theorem dX11_field_12 : decode cX11_field 12 = .ok (.iload_n 2, 1) := by decide +kernel
theorem dX11_field_13 : decode cX11_field 13 = .ok (.imul, 1) := by decide +kernel
theorem dX11_field_14 : decode cX11_field 14 = .ok (.iadd, 1) := by decide +kernel
theorem dX11_field_15 : decode cX11_field 15 = .ok (.iload_n 3, 1) := by decide +kernel
theorem dX11_field_16 : decode cX11_field 16 = .ok (.iadd, 1) := by decide +kernel
theorem dX11_field_17 : decode cX11_field 17 = .ok (.iaload, 1) := by decide +kernel
theorem dX11_field_18 : decode cX11_field 18 = .ok (.ireturn, 1) := by decide +kernel
theorem dX11_finds_0 : decode cX11_finds 0 = .ok (.bipush 17, 2) := by decide +kernel
theorem dX11_finds_2 : decode cX11_finds 2 = .ok (.istore_n 3, 1) := by decide +kernel
theorem dX11_finds_3 : decode cX11_finds 3 = .ok (.iconst 0, 1) := by decide +kernel
theorem dX11_finds_4 : decode cX11_finds 4 = .ok (.istore 4, 2) := by decide +kernel
theorem dX11_finds_6 : decode cX11_finds 6 = .ok (.iload 4, 2) := by decide +kernel
theorem dX11_finds_8 : decode cX11_finds 8 = .ok (.bipush 52, 2) := by decide +kernel
theorem dX11_finds_10 : decode cX11_finds 10 = .ok (.if_icmp .ge 22, 3) := by decide +kernel
theorem dX11_finds_13 : decode cX11_finds 13 = .ok (.bipush 31, 2) := by decide +kernel
theorem dX11_finds_15 : decode cX11_finds 15 = .ok (.iload_n 3, 1) := by decide +kernel
theorem dX11_finds_16 : decode cX11_finds 16 = .ok (.imul, 1) := by decide +kernel
theorem dX11_finds_17 : decode cX11_finds 17 = .ok (.aload_n 0, 1) := by decide +kernel
theorem dX11_finds_18 : decode cX11_finds 18 = .ok (.getfield 16, 3) := by decide +kernel
theorem dX11_finds_21 : decode cX11_finds 21 = .ok (.iload 4, 2) := by decide +kernel
theorem dX11_finds_23 : decode cX11_finds 23 = .ok (.iaload, 1) := by decide +kernel
theorem dX11_finds_24 : decode cX11_finds 24 = .ok (.iadd, 1) := by decide +kernel
theorem dX11_finds_25 : decode cX11_finds 25 = .ok (.istore_n 3, 1) := by decide +kernel
theorem dX11_finds_26 : decode cX11_finds 26 = .ok (.iinc 4 1, 3) := by decide +kernel
theorem dX11_finds_29 : decode cX11_finds 29 = .ok (.goto (-23), 3) := by decide +kernel
theorem dX11_finds_32 : decode cX11_finds 32 = .ok (.iload_n 3, 1) := by decide +kernel
theorem dX11_finds_33 : decode cX11_finds 33 = .ok (.bipush 7, 2) := by decide +kernel
theorem dX11_finds_35 : decode cX11_finds 35 = .ok (.iushr, 1) := by decide +kernel
theorem dX11_finds_36 : decode cX11_finds 36 = .ok (.iload_n 3, 1) := by decide +kernel
theorem dX11_finds_37 : decode cX11_finds 37 = .ok (.ixor, 1) := by decide +kernel
theorem dX11_finds_38 : decode cX11_finds 38 = .ok (.sipush 2047, 3) := by decide +kernel
theorem dX11_finds_41 : decode cX11_finds 41 = .ok (.iand, 1) := by decide +kernel
theorem dX11_finds_42 : decode cX11_finds 42 = .ok (.istore 4, 2) := by decide +kernel
theorem dX11_finds_44 : decode cX11_finds 44 = .ok (.aload_n 0, 1) := by decide +kernel
theorem dX11_finds_45 : decode cX11_finds 45 = .ok (.getfield 52, 3) := by decide +kernel
theorem dX11_finds_48 : decode cX11_finds 48 = .ok (.iload 4, 2) := by decide +kernel
theorem dX11_finds_50 : decode cX11_finds 50 = .ok (.iaload, 1) := by decide +kernel
theorem dX11_finds_51 : decode cX11_finds 51 = .ok (.ifCond .le 32, 3) := by decide +kernel
theorem dX11_finds_54 : decode cX11_finds 54 = .ok (.aload_n 0, 1) := by decide +kernel
theorem dX11_finds_55 : decode cX11_finds 55 = .ok (.aload_n 0, 1) := by decide +kernel
theorem dX11_finds_56 : decode cX11_finds 56 = .ok (.getfield 52, 3) := by decide +kernel
theorem dX11_finds_59 : decode cX11_finds 59 = .ok (.iload 4, 2) := by decide +kernel
theorem dX11_finds_61 : decode cX11_finds 61 = .ok (.iaload, 1) := by decide +kernel
theorem dX11_finds_62 : decode cX11_finds 62 = .ok (.iconst 1, 1) := by decide +kernel
theorem dX11_finds_63 : decode cX11_finds 63 = .ok (.isub, 1) := by decide +kernel
theorem dX11_finds_64 : decode cX11_finds 64 = .ok (.invokevirtual 228, 3) := by decide +kernel
theorem dX11_finds_67 : decode cX11_finds 67 = .ok (.ifCond .ne 16, 3) := by decide +kernel
theorem dX11_finds_70 : decode cX11_finds 70 = .ok (.iload 4, 2) := by decide +kernel
theorem dX11_finds_72 : decode cX11_finds 72 = .ok (.iconst 1, 1) := by decide +kernel
theorem dX11_finds_73 : decode cX11_finds 73 = .ok (.iadd, 1) := by decide +kernel
theorem dX11_finds_74 : decode cX11_finds 74 = .ok (.sipush 2047, 3) := by decide +kernel
theorem dX11_finds_77 : decode cX11_finds 77 = .ok (.iand, 1) := by decide +kernel
theorem dX11_finds_78 : decode cX11_finds 78 = .ok (.istore 4, 2) := by decide +kernel
theorem dX11_finds_80 : decode cX11_finds 80 = .ok (.goto (-36), 3) := by decide +kernel
theorem dX11_finds_83 : decode cX11_finds 83 = .ok (.aload_n 0, 1) := by decide +kernel
theorem dX11_finds_84 : decode cX11_finds 84 = .ok (.getfield 52, 3) := by decide +kernel
theorem dX11_finds_87 : decode cX11_finds 87 = .ok (.iload 4, 2) := by decide +kernel
theorem dX11_finds_89 : decode cX11_finds 89 = .ok (.iaload, 1) := by decide +kernel
theorem dX11_finds_90 : decode cX11_finds 90 = .ok (.ifCond .ne 118, 3) := by decide +kernel
theorem dX11_finds_93 : decode cX11_finds 93 = .ok (.aload_n 0, 1) := by decide +kernel
theorem dX11_finds_94 : decode cX11_finds 94 = .ok (.aload_n 0, 1) := by decide +kernel
theorem dX11_finds_95 : decode cX11_finds 95 = .ok (.getfield 231, 3) := by decide +kernel
theorem dX11_finds_98 : decode cX11_finds 98 = .ok (.sipush 600, 3) := by decide +kernel
theorem dX11_finds_101 : decode cX11_finds 101 = .ok (.if_icmp .ge 7, 3) := by decide +kernel
theorem dX11_finds_104 : decode cX11_finds 104 = .ok (.iconst 1, 1) := by decide +kernel
theorem dX11_finds_105 : decode cX11_finds 105 = .ok (.goto 4, 3) := by decide +kernel
theorem dX11_finds_108 : decode cX11_finds 108 = .ok (.iconst 0, 1) := by decide +kernel
theorem dX11_finds_109 : decode cX11_finds 109 = .ok (.putfield 234, 3) := by decide +kernel
theorem dX11_finds_112 : decode cX11_finds 112 = .ok (.aload_n 0, 1) := by decide +kernel
theorem dX11_finds_113 : decode cX11_finds 113 = .ok (.getfield 234, 3) := by decide +kernel
theorem dX11_finds_116 : decode cX11_finds 116 = .ok (.ifCond .eq 92, 3) := by decide +kernel
theorem dX11_finds_119 : decode cX11_finds 119 = .ok (.aload_n 0, 1) := by decide +kernel
theorem dX11_finds_120 : decode cX11_finds 120 = .ok (.getfield 52, 3) := by decide +kernel
theorem dX11_finds_123 : decode cX11_finds 123 = .ok (.iload 4, 2) := by decide +kernel
theorem dX11_finds_125 : decode cX11_finds 125 = .ok (.aload_n 0, 1) := by decide +kernel
theorem dX11_finds_126 : decode cX11_finds 126 = .ok (.getfield 231, 3) := by decide +kernel
theorem dX11_finds_129 : decode cX11_finds 129 = .ok (.iconst 1, 1) := by decide +kernel
theorem dX11_finds_130 : decode cX11_finds 130 = .ok (.iadd, 1) := by decide +kernel
theorem dX11_finds_131 : decode cX11_finds 131 = .ok (.iastore, 1) := by decide +kernel
theorem dX11_finds_132 : decode cX11_finds 132 = .ok (.aload_n 0, 1) := by decide +kernel
theorem dX11_finds_133 : decode cX11_finds 133 = .ok (.getfield 16, 3) := by decide +kernel
theorem dX11_finds_136 : decode cX11_finds 136 = .ok (.iconst 0, 1) := by decide +kernel
theorem dX11_finds_137 : decode cX11_finds 137 = .ok (.aload_n 0, 1) := by decide +kernel
theorem dX11_finds_138 : decode cX11_finds 138 = .ok (.getfield 40, 3) := by decide +kernel
theorem dX11_finds_141 : decode cX11_finds 141 = .ok (.bipush 52, 2) := by decide +kernel
theorem dX11_finds_143 : decode cX11_finds 143 = .ok (.aload_n 0, 1) := by decide +kernel
theorem dX11_finds_144 : decode cX11_finds 144 = .ok (.getfield 231, 3) := by decide +kernel
theorem dX11_finds_147 : decode cX11_finds 147 = .ok (.imul, 1) := by decide +kernel
theorem dX11_finds_148 : decode cX11_finds 148 = .ok (.bipush 52, 2) := by decide +kernel
theorem dX11_finds_150 : decode cX11_finds 150 = .ok (.invokestatic 146, 3) := by decide +kernel
theorem dX11_finds_153 : decode cX11_finds 153 = .ok (.aload_n 0, 1) := by decide +kernel
theorem dX11_finds_154 : decode cX11_finds 154 = .ok (.getfield 43, 3) := by decide +kernel
theorem dX11_finds_157 : decode cX11_finds 157 = .ok (.aload_n 0, 1) := by decide +kernel
theorem dX11_finds_158 : decode cX11_finds 158 = .ok (.getfield 231, 3) := by decide +kernel
theorem dX11_finds_161 : decode cX11_finds 161 = .ok (.iload_n 1, 1) := by decide +kernel
theorem dX11_finds_162 : decode cX11_finds 162 = .ok (.iastore, 1) := by decide +kernel
theorem dX11_finds_163 : decode cX11_finds 163 = .ok (.aload_n 0, 1) := by decide +kernel
theorem dX11_finds_164 : decode cX11_finds 164 = .ok (.getfield 46, 3) := by decide +kernel
theorem dX11_finds_167 : decode cX11_finds 167 = .ok (.aload_n 0, 1) := by decide +kernel
theorem dX11_finds_168 : decode cX11_finds 168 = .ok (.getfield 231, 3) := by decide +kernel
theorem dX11_finds_171 : decode cX11_finds 171 = .ok (.iload_n 2, 1) := by decide +kernel
theorem dX11_finds_172 : decode cX11_finds 172 = .ok (.iastore, 1) := by decide +kernel
theorem dX11_finds_173 : decode cX11_finds 173 = .ok (.aload_n 0, 1) := by decide +kernel
theorem dX11_finds_174 : decode cX11_finds 174 = .ok (.getfield 49, 3) := by decide +kernel
theorem dX11_finds_177 : decode cX11_finds 177 = .ok (.aload_n 0, 1) := by decide +kernel
theorem dX11_finds_178 : decode cX11_finds 178 = .ok (.getfield 231, 3) := by decide +kernel
theorem dX11_finds_181 : decode cX11_finds 181 = .ok (.iload_n 1, 1) := by decide +kernel
theorem dX11_finds_182 : decode cX11_finds 182 = .ok (.ifCond .ge 7, 3) := by decide +kernel
theorem dX11_finds_185 : decode cX11_finds 185 = .ok (.iconst 0, 1) := by decide +kernel
theorem dX11_finds_186 : decode cX11_finds 186 = .ok (.goto 11, 3) := by decide +kernel
theorem dX11_finds_189 : decode cX11_finds 189 = .ok (.aload_n 0, 1) := by decide +kernel
theorem dX11_finds_190 : decode cX11_finds 190 = .ok (.getfield 49, 3) := by decide +kernel
theorem dX11_finds_193 : decode cX11_finds 193 = .ok (.iload_n 1, 1) := by decide +kernel
theorem dX11_finds_194 : decode cX11_finds 194 = .ok (.iaload, 1) := by decide +kernel
theorem dX11_finds_195 : decode cX11_finds 195 = .ok (.iconst 1, 1) := by decide +kernel
theorem dX11_finds_196 : decode cX11_finds 196 = .ok (.iadd, 1) := by decide +kernel
theorem dX11_finds_197 : decode cX11_finds 197 = .ok (.iastore, 1) := by decide +kernel
theorem dX11_finds_198 : decode cX11_finds 198 = .ok (.aload_n 0, 1) := by decide +kernel
theorem dX11_finds_199 : decode cX11_finds 199 = .ok (.dup, 1) := by decide +kernel
theorem dX11_finds_200 : decode cX11_finds 200 = .ok (.getfield 231, 3) := by decide +kernel
theorem dX11_finds_203 : decode cX11_finds 203 = .ok (.iconst 1, 1) := by decide +kernel
theorem dX11_finds_204 : decode cX11_finds 204 = .ok (.iadd, 1) := by decide +kernel
theorem dX11_finds_205 : decode cX11_finds 205 = .ok (.putfield 231, 3) := by decide +kernel
theorem dX11_finds_208 : decode cX11_finds 208 = .ok (.return_, 1) := by decide +kernel
theorem dX11_findsAll_0 : decode cX11_findsAll 0 = .ok (.iconst 0, 1) := by decide +kernel
theorem dX11_findsAll_1 : decode cX11_findsAll 1 = .ok (.istore_n 1, 1) := by decide +kernel
theorem dX11_findsAll_2 : decode cX11_findsAll 2 = .ok (.iload_n 1, 1) := by decide +kernel
theorem dX11_findsAll_3 : decode cX11_findsAll 3 = .ok (.sipush 2048, 3) := by decide +kernel
theorem dX11_findsAll_6 : decode cX11_findsAll 6 = .ok (.if_icmp .ge 16, 3) := by decide +kernel
theorem dX11_findsAll_9 : decode cX11_findsAll 9 = .ok (.aload_n 0, 1) := by decide +kernel
theorem dX11_findsAll_10 : decode cX11_findsAll 10 = .ok (.getfield 52, 3) := by decide +kernel
theorem dX11_findsAll_13 : decode cX11_findsAll 13 = .ok (.iload_n 1, 1) := by decide +kernel
theorem dX11_findsAll_14 : decode cX11_findsAll 14 = .ok (.iconst 0, 1) := by decide +kernel
theorem dX11_findsAll_15 : decode cX11_findsAll 15 = .ok (.iastore, 1) := by decide +kernel
theorem dX11_findsAll_16 : decode cX11_findsAll 16 = .ok (.iinc 1 1, 3) := by decide +kernel
theorem dX11_findsAll_19 : decode cX11_findsAll 19 = .ok (.goto (-17), 3) := by decide +kernel
theorem dX11_findsAll_22 : decode cX11_findsAll 22 = .ok (.aload_n 0, 1) := by decide +kernel
theorem dX11_findsAll_23 : decode cX11_findsAll 23 = .ok (.iconst 0, 1) := by decide +kernel
theorem dX11_findsAll_24 : decode cX11_findsAll 24 = .ok (.putfield 231, 3) := by decide +kernel
theorem dX11_findsAll_27 : decode cX11_findsAll 27 = .ok (.aload_n 0, 1) := by decide +kernel
theorem dX11_findsAll_28 : decode cX11_findsAll 28 = .ok (.getfield 9, 3) := by decide +kernel
theorem dX11_findsAll_31 : decode cX11_findsAll 31 = .ok (.iconst 0, 1) := by decide +kernel
theorem dX11_findsAll_32 : decode cX11_findsAll 32 = .ok (.aload_n 0, 1) := by decide +kernel
theorem dX11_findsAll_33 : decode cX11_findsAll 33 = .ok (.getfield 16, 3) := by decide +kernel
theorem dX11_findsAll_36 : decode cX11_findsAll 36 = .ok (.iconst 0, 1) := by decide +kernel
theorem dX11_findsAll_37 : decode cX11_findsAll 37 = .ok (.bipush 52, 2) := by decide +kernel
theorem dX11_findsAll_39 : decode cX11_findsAll 39 = .ok (.invokestatic 146, 3) := by decide +kernel
theorem dX11_findsAll_42 : decode cX11_findsAll 42 = .ok (.aload_n 0, 1) := by decide +kernel
theorem dX11_findsAll_43 : decode cX11_findsAll 43 = .ok (.iconst (-1), 1) := by decide +kernel
theorem dX11_findsAll_44 : decode cX11_findsAll 44 = .ok (.iconst (-1), 1) := by decide +kernel
theorem dX11_findsAll_45 : decode cX11_findsAll 45 = .ok (.invokevirtual 238, 3) := by decide +kernel
theorem dX11_findsAll_48 : decode cX11_findsAll 48 = .ok (.iconst 0, 1) := by decide +kernel
theorem dX11_findsAll_49 : decode cX11_findsAll 49 = .ok (.istore_n 1, 1) := by decide +kernel
theorem dX11_findsAll_50 : decode cX11_findsAll 50 = .ok (.iload_n 1, 1) := by decide +kernel
theorem dX11_findsAll_51 : decode cX11_findsAll 51 = .ok (.aload_n 0, 1) := by decide +kernel
theorem dX11_findsAll_52 : decode cX11_findsAll 52 = .ok (.getfield 231, 3) := by decide +kernel
theorem dX11_findsAll_55 : decode cX11_findsAll 55 = .ok (.if_icmp .ge 87, 3) := by decide +kernel
theorem dX11_findsAll_58 : decode cX11_findsAll 58 = .ok (.aload_n 0, 1) := by decide +kernel
theorem dX11_findsAll_59 : decode cX11_findsAll 59 = .ok (.getfield 234, 3) := by decide +kernel
theorem dX11_findsAll_62 : decode cX11_findsAll 62 = .ok (.ifCond .eq 80, 3) := by decide +kernel
theorem dX11_findsAll_65 : decode cX11_findsAll 65 = .ok (.iconst 0, 1) := by decide +kernel
theorem dX11_findsAll_66 : decode cX11_findsAll 66 = .ok (.istore_n 2, 1) := by decide +kernel
theorem dX11_findsAll_67 : decode cX11_findsAll 67 = .ok (.iload_n 2, 1) := by decide +kernel
theorem dX11_findsAll_68 : decode cX11_findsAll 68 = .ok (.aload_n 0, 1) := by decide +kernel
theorem dX11_findsAll_69 : decode cX11_findsAll 69 = .ok (.getfield 9, 3) := by decide +kernel
theorem dX11_findsAll_72 : decode cX11_findsAll 72 = .ok (.bipush 52, 2) := by decide +kernel
theorem dX11_findsAll_74 : decode cX11_findsAll 74 = .ok (.iaload, 1) := by decide +kernel
theorem dX11_findsAll_75 : decode cX11_findsAll 75 = .ok (.if_icmp .ge 61, 3) := by decide +kernel
theorem dX11_findsAll_78 : decode cX11_findsAll 78 = .ok (.aload_n 0, 1) := by decide +kernel
theorem dX11_findsAll_79 : decode cX11_findsAll 79 = .ok (.getfield 234, 3) := by decide +kernel
theorem dX11_findsAll_82 : decode cX11_findsAll 82 = .ok (.ifCond .eq 54, 3) := by decide +kernel
theorem dX11_findsAll_85 : decode cX11_findsAll 85 = .ok (.aload_n 0, 1) := by decide +kernel
theorem dX11_findsAll_86 : decode cX11_findsAll 86 = .ok (.getfield 40, 3) := by decide +kernel
theorem dX11_findsAll_89 : decode cX11_findsAll 89 = .ok (.bipush 52, 2) := by decide +kernel
theorem dX11_findsAll_91 : decode cX11_findsAll 91 = .ok (.iload_n 1, 1) := by decide +kernel
theorem dX11_findsAll_92 : decode cX11_findsAll 92 = .ok (.imul, 1) := by decide +kernel
theorem dX11_findsAll_93 : decode cX11_findsAll 93 = .ok (.iconst 4, 1) := by decide +kernel
theorem dX11_findsAll_94 : decode cX11_findsAll 94 = .ok (.iadd, 1) := by decide +kernel
theorem dX11_findsAll_95 : decode cX11_findsAll 95 = .ok (.iload_n 2, 1) := by decide +kernel
theorem dX11_findsAll_96 : decode cX11_findsAll 96 = .ok (.iadd, 1) := by decide +kernel
theorem dX11_findsAll_97 : decode cX11_findsAll 97 = .ok (.iaload, 1) := by decide +kernel
theorem dX11_findsAll_98 : decode cX11_findsAll 98 = .ok (.ifCond .ne 32, 3) := by decide +kernel
theorem dX11_findsAll_101 : decode cX11_findsAll 101 = .ok (.aload_n 0, 1) := by decide +kernel
theorem dX11_findsAll_102 : decode cX11_findsAll 102 = .ok (.getfield 40, 3) := by decide +kernel
theorem dX11_findsAll_105 : decode cX11_findsAll 105 = .ok (.bipush 52, 2) := by decide +kernel
theorem dX11_findsAll_107 : decode cX11_findsAll 107 = .ok (.iload_n 1, 1) := by decide +kernel
theorem dX11_findsAll_108 : decode cX11_findsAll 108 = .ok (.imul, 1) := by decide +kernel
theorem dX11_findsAll_109 : decode cX11_findsAll 109 = .ok (.aload_n 0, 1) := by decide +kernel
theorem dX11_findsAll_110 : decode cX11_findsAll 110 = .ok (.getfield 16, 3) := by decide +kernel
theorem dX11_findsAll_113 : decode cX11_findsAll 113 = .ok (.iconst 0, 1) := by decide +kernel
theorem dX11_findsAll_114 : decode cX11_findsAll 114 = .ok (.bipush 52, 2) := by decide +kernel
theorem dX11_findsAll_116 : decode cX11_findsAll 116 = .ok (.invokestatic 146, 3) := by decide +kernel
theorem dX11_findsAll_119 : decode cX11_findsAll 119 = .ok (.aload_n 0, 1) := by decide +kernel
theorem dX11_findsAll_120 : decode cX11_findsAll 120 = .ok (.iload_n 2, 1) := by decide +kernel
theorem dX11_findsAll_121 : decode cX11_findsAll 121 = .ok (.invokevirtual 188, 3) := by decide +kernel
theorem dX11_findsAll_124 : decode cX11_findsAll 124 = .ok (.aload_n 0, 1) := by decide +kernel
theorem dX11_findsAll_125 : decode cX11_findsAll 125 = .ok (.iload_n 1, 1) := by decide +kernel
theorem dX11_findsAll_126 : decode cX11_findsAll 126 = .ok (.iload_n 2, 1) := by decide +kernel
theorem dX11_findsAll_127 : decode cX11_findsAll 127 = .ok (.invokevirtual 238, 3) := by decide +kernel
theorem dX11_findsAll_130 : decode cX11_findsAll 130 = .ok (.iinc 2 1, 3) := by decide +kernel
theorem dX11_findsAll_133 : decode cX11_findsAll 133 = .ok (.goto (-66), 3) := by decide +kernel
theorem dX11_findsAll_136 : decode cX11_findsAll 136 = .ok (.iinc 1 1, 3) := by decide +kernel
theorem dX11_findsAll_139 : decode cX11_findsAll 139 = .ok (.goto (-89), 3) := by decide +kernel
theorem dX11_findsAll_142 : decode cX11_findsAll 142 = .ok (.return_, 1) := by decide +kernel
theorem dX11_firstFailing_0 : decode cX11_firstFailing 0 = .ok (.iconst 0, 1) := by decide +kernel
theorem dX11_firstFailing_1 : decode cX11_firstFailing 1 = .ok (.istore_n 1, 1) := by decide +kernel
theorem dX11_firstFailing_2 : decode cX11_firstFailing 2 = .ok (.iload_n 1, 1) := by decide +kernel
theorem dX11_firstFailing_3 : decode cX11_firstFailing 3 = .ok (.aload_n 0, 1) := by decide +kernel
theorem dX11_firstFailing_4 : decode cX11_firstFailing 4 = .ok (.getfield 231, 3) := by decide +kernel
theorem dX11_firstFailing_7 : decode cX11_firstFailing 7 = .ok (.if_icmp .ge 26, 3) := by decide +kernel
theorem dX11_firstFailing_10 : decode cX11_firstFailing 10 = .ok (.aload_n 0, 1) := by decide +kernel
theorem dX11_firstFailing_11 : decode cX11_firstFailing 11 = .ok (.aload_n 0, 1) := by decide +kernel
theorem dX11_firstFailing_12 : decode cX11_firstFailing 12 = .ok (.getfield 40, 3) := by decide +kernel
theorem dX11_firstFailing_15 : decode cX11_firstFailing 15 = .ok (.bipush 52, 2) := by decide +kernel
theorem dX11_firstFailing_17 : decode cX11_firstFailing 17 = .ok (.iload_n 1, 1) := by decide +kernel
theorem dX11_firstFailing_18 : decode cX11_firstFailing 18 = .ok (.imul, 1) := by decide +kernel
theorem dX11_firstFailing_19 : decode cX11_firstFailing 19 = .ok (.invokevirtual 241, 3) := by decide +kernel
theorem dX11_firstFailing_22 : decode cX11_firstFailing 22 = .ok (.ifCond .ne 5, 3) := by decide +kernel
theorem dX11_firstFailing_25 : decode cX11_firstFailing 25 = .ok (.iload_n 1, 1) := by decide +kernel
theorem dX11_firstFailing_26 : decode cX11_firstFailing 26 = .ok (.ireturn, 1) := by decide +kernel
theorem dX11_firstFailing_27 : decode cX11_firstFailing 27 = .ok (.iinc 1 1, 3) := by decide +kernel
theorem dX11_firstFailing_30 : decode cX11_firstFailing 30 = .ok (.goto (-28), 3) := by decide +kernel
theorem dX11_firstFailing_33 : decode cX11_firstFailing 33 = .ok (.iconst (-1), 1) := by decide +kernel
theorem dX11_firstFailing_34 : decode cX11_firstFailing 34 = .ok (.ireturn, 1) := by decide +kernel
theorem dX11_firstSticking_0 : decode cX11_firstSticking 0 = .ok (.iconst 0, 1) := by decide +kernel
theorem dX11_firstSticking_1 : decode cX11_firstSticking 1 = .ok (.istore_n 1, 1) := by decide +kernel
theorem dX11_firstSticking_2 : decode cX11_firstSticking 2 = .ok (.iload_n 1, 1) := by decide +kernel
theorem dX11_firstSticking_3 : decode cX11_firstSticking 3 = .ok (.aload_n 0, 1) := by decide +kernel
theorem dX11_firstSticking_4 : decode cX11_firstSticking 4 = .ok (.getfield 231, 3) := by decide +kernel
theorem dX11_firstSticking_7 : decode cX11_firstSticking 7 = .ok (.if_icmp .ge 26, 3) := by decide +kernel
theorem dX11_firstSticking_10 : decode cX11_firstSticking 10 = .ok (.aload_n 0, 1) := by decide +kernel
theorem dX11_firstSticking_11 : decode cX11_firstSticking 11 = .ok (.aload_n 0, 1) := by decide +kernel
theorem dX11_firstSticking_12 : decode cX11_firstSticking 12 = .ok (.getfield 40, 3) := by decide +kernel
theorem dX11_firstSticking_15 : decode cX11_firstSticking 15 = .ok (.bipush 52, 2) := by decide +kernel
theorem dX11_firstSticking_17 : decode cX11_firstSticking 17 = .ok (.iload_n 1, 1) := by decide +kernel
theorem dX11_firstSticking_18 : decode cX11_firstSticking 18 = .ok (.imul, 1) := by decide +kernel
theorem dX11_firstSticking_19 : decode cX11_firstSticking 19 = .ok (.invokevirtual 221, 3) := by decide +kernel
theorem dX11_firstSticking_22 : decode cX11_firstSticking 22 = .ok (.ifCond .eq 5, 3) := by decide +kernel
theorem dX11_firstSticking_25 : decode cX11_firstSticking 25 = .ok (.iload_n 1, 1) := by decide +kernel
theorem dX11_firstSticking_26 : decode cX11_firstSticking 26 = .ok (.ireturn, 1) := by decide +kernel
theorem dX11_firstSticking_27 : decode cX11_firstSticking 27 = .ok (.iinc 1 1, 3) := by decide +kernel
theorem dX11_firstSticking_30 : decode cX11_firstSticking 30 = .ok (.goto (-28), 3) := by decide +kernel
theorem dX11_firstSticking_33 : decode cX11_firstSticking 33 = .ok (.iconst (-1), 1) := by decide +kernel
theorem dX11_firstSticking_34 : decode cX11_firstSticking 34 = .ok (.ireturn, 1) := by decide +kernel
theorem dX11_follow_0 : decode cX11_follow 0 = .ok (.iload_n 1, 1) := by decide +kernel
theorem dX11_follow_1 : decode cX11_follow 1 = .ok (.invokestatic 203, 3) := by decide +kernel
theorem dX11_follow_4 : decode cX11_follow 4 = .ok (.ifCond .ne 5, 3) := by decide +kernel
theorem dX11_follow_7 : decode cX11_follow 7 = .ok (.iconst (-1), 1) := by decide +kernel
theorem dX11_follow_8 : decode cX11_follow 8 = .ok (.ireturn, 1) := by decide +kernel
theorem dX11_follow_9 : decode cX11_follow 9 = .ok (.aload_n 0, 1) := by decide +kernel
theorem dX11_follow_10 : decode cX11_follow 10 = .ok (.getfield 58, 3) := by decide +kernel
theorem dX11_follow_13 : decode cX11_follow 13 = .ok (.iload_n 1, 1) := by decide +kernel
theorem dX11_follow_14 : decode cX11_follow 14 = .ok (.iaload, 1) := by decide +kernel
theorem dX11_follow_15 : decode cX11_follow 15 = .ok (.ifCond .ge 6, 3) := by decide +kernel
theorem dX11_follow_18 : decode cX11_follow 18 = .ok (.bipush (-11), 2) := by decide +kernel
theorem dX11_follow_20 : decode cX11_follow 20 = .ok (.ireturn, 1) := by decide +kernel
theorem dX11_follow_21 : decode cX11_follow 21 = .ok (.iload_n 3, 1) := by decide +kernel
theorem dX11_follow_22 : decode cX11_follow 22 = .ok (.ifCond .lt 19, 3) := by decide +kernel
theorem dX11_follow_25 : decode cX11_follow 25 = .ok (.iload_n 2, 1) := by decide +kernel
theorem dX11_follow_26 : decode cX11_follow 26 = .ok (.ifCond .lt 15, 3) := by decide +kernel
theorem dX11_follow_29 : decode cX11_follow 29 = .ok (.iload_n 2, 1) := by decide +kernel
theorem dX11_follow_30 : decode cX11_follow 30 = .ok (.aload_n 0, 1) := by decide +kernel
theorem dX11_follow_31 : decode cX11_follow 31 = .ok (.getfield 58, 3) := by decide +kernel
theorem dX11_follow_34 : decode cX11_follow 34 = .ok (.iload_n 1, 1) := by decide +kernel
theorem dX11_follow_35 : decode cX11_follow 35 = .ok (.iaload, 1) := by decide +kernel
theorem dX11_follow_36 : decode cX11_follow 36 = .ok (.iload_n 3, 1) := by decide +kernel
theorem dX11_follow_37 : decode cX11_follow 37 = .ok (.isub, 1) := by decide +kernel
theorem dX11_follow_38 : decode cX11_follow 38 = .ok (.if_icmp .le 6, 3) := by decide +kernel
theorem dX11_follow_41 : decode cX11_follow 41 = .ok (.bipush (-13), 2) := by decide +kernel
theorem dX11_follow_43 : decode cX11_follow 43 = .ok (.ireturn, 1) := by decide +kernel
theorem dX11_follow_44 : decode cX11_follow 44 = .ok (.iconst 0, 1) := by decide +kernel
theorem dX11_follow_45 : decode cX11_follow 45 = .ok (.istore 4, 2) := by decide +kernel
theorem dX11_follow_47 : decode cX11_follow 47 = .ok (.iload 4, 2) := by decide +kernel
theorem dX11_follow_49 : decode cX11_follow 49 = .ok (.iload_n 3, 1) := by decide +kernel
theorem dX11_follow_50 : decode cX11_follow 50 = .ok (.if_icmp .ge 48, 3) := by decide +kernel
theorem dX11_follow_53 : decode cX11_follow 53 = .ok (.aload_n 0, 1) := by decide +kernel
theorem dX11_follow_54 : decode cX11_follow 54 = .ok (.aload_n 0, 1) := by decide +kernel
theorem dX11_follow_55 : decode cX11_follow 55 = .ok (.getfield 61, 3) := by decide +kernel
theorem dX11_follow_58 : decode cX11_follow 58 = .ok (.bipush 40, 2) := by decide +kernel
theorem dX11_follow_60 : decode cX11_follow 60 = .ok (.iload_n 1, 1) := by decide +kernel
theorem dX11_follow_61 : decode cX11_follow 61 = .ok (.imul, 1) := by decide +kernel
theorem dX11_follow_62 : decode cX11_follow 62 = .ok (.iload_n 2, 1) := by decide +kernel
theorem dX11_follow_63 : decode cX11_follow 63 = .ok (.iadd, 1) := by decide +kernel
theorem dX11_follow_64 : decode cX11_follow 64 = .ok (.iload 4, 2) := by decide +kernel
theorem dX11_follow_66 : decode cX11_follow 66 = .ok (.iadd, 1) := by decide +kernel
theorem dX11_follow_67 : decode cX11_follow 67 = .ok (.iaload, 1) := by decide +kernel
theorem dX11_follow_68 : decode cX11_follow 68 = .ok (.invokevirtual 191, 3) := by decide +kernel
theorem dX11_follow_71 : decode cX11_follow 71 = .ok (.ifCond .eq 27, 3) := by decide +kernel
theorem dX11_follow_74 : decode cX11_follow 74 = .ok (.aload_n 0, 1) := by decide +kernel
theorem dX11_follow_75 : decode cX11_follow 75 = .ok (.aload_n 0, 1) := by decide +kernel
theorem dX11_follow_76 : decode cX11_follow 76 = .ok (.getfield 61, 3) := by decide +kernel
theorem dX11_follow_79 : decode cX11_follow 79 = .ok (.bipush 40, 2) := by decide +kernel
theorem dX11_follow_81 : decode cX11_follow 81 = .ok (.iload_n 1, 1) := by decide +kernel
theorem dX11_follow_82 : decode cX11_follow 82 = .ok (.imul, 1) := by decide +kernel
theorem dX11_follow_83 : decode cX11_follow 83 = .ok (.iload_n 2, 1) := by decide +kernel
theorem dX11_follow_84 : decode cX11_follow 84 = .ok (.iadd, 1) := by decide +kernel
theorem dX11_follow_85 : decode cX11_follow 85 = .ok (.iload 4, 2) := by decide +kernel
theorem dX11_follow_87 : decode cX11_follow 87 = .ok (.iadd, 1) := by decide +kernel
theorem dX11_follow_88 : decode cX11_follow 88 = .ok (.iaload, 1) := by decide +kernel
theorem dX11_follow_89 : decode cX11_follow 89 = .ok (.invokevirtual 194, 3) := by decide +kernel
theorem dX11_follow_92 : decode cX11_follow 92 = .ok (.iinc 4 1, 3) := by decide +kernel
theorem dX11_follow_95 : decode cX11_follow 95 = .ok (.goto (-48), 3) := by decide +kernel
theorem dX11_follow_98 : decode cX11_follow 98 = .ok (.iload 4, 2) := by decide +kernel
theorem dX11_follow_100 : decode cX11_follow 100 = .ok (.ireturn, 1) := by decide +kernel
theorem dX11_found_0 : decode cX11_found 0 = .ok (.iload_n 1, 1) := by decide +kernel
theorem dX11_found_1 : decode cX11_found 1 = .ok (.i2l, 1) := by decide +kernel
theorem dX11_found_2 : decode cX11_found 2 = .ok (.lconst 0, 1) := by decide +kernel
theorem dX11_found_3 : decode cX11_found 3 = .ok (.ldc2_w 250, 3) := by decide +kernel
theorem dX11_found_6 : decode cX11_found 6 = .ok (.invokestatic 64, 3) := by decide +kernel
theorem dX11_found_9 : decode cX11_found 9 = .ok (.ifCond .ne 5, 3) := by decide +kernel
theorem dX11_found_12 : decode cX11_found 12 = .ok (.iconst (-1), 1) := by decide +kernel
theorem dX11_found_13 : decode cX11_found 13 = .ok (.ireturn, 1) := by decide +kernel
theorem dX11_found_14 : decode cX11_found 14 = .ok (.aload_n 0, 1) := by decide +kernel
theorem dX11_found_15 : decode cX11_found 15 = .ok (.invokevirtual 252, 3) := by decide +kernel
theorem dX11_found_18 : decode cX11_found 18 = .ok (.iload_n 1, 1) := by decide +kernel
theorem dX11_found_19 : decode cX11_found 19 = .ok (.tableswitch 126 0 7 #[45, 50, 63, 63, 78, 83, 83, 116], 45) := by decide +kernel
theorem dX11_found_64 : decode cX11_found 64 = .ok (.aload_n 0, 1) := by decide +kernel
theorem dX11_found_65 : decode cX11_found 65 = .ok (.getfield 231, 3) := by decide +kernel
theorem dX11_found_68 : decode cX11_found 68 = .ok (.ireturn, 1) := by decide +kernel
theorem dX11_found_69 : decode cX11_found 69 = .ok (.aload_n 0, 1) := by decide +kernel
theorem dX11_found_70 : decode cX11_found 70 = .ok (.getfield 234, 3) := by decide +kernel
theorem dX11_found_73 : decode cX11_found 73 = .ok (.ifCond .eq 7, 3) := by decide +kernel
theorem dX11_found_76 : decode cX11_found 76 = .ok (.iconst 1, 1) := by decide +kernel
theorem dX11_found_77 : decode cX11_found 77 = .ok (.goto 4, 3) := by decide +kernel
theorem dX11_found_80 : decode cX11_found 80 = .ok (.iconst 0, 1) := by decide +kernel
theorem dX11_found_81 : decode cX11_found 81 = .ok (.ireturn, 1) := by decide +kernel
theorem dX11_found_82 : decode cX11_found 82 = .ok (.aload_n 0, 1) := by decide +kernel
theorem dX11_found_83 : decode cX11_found 83 = .ok (.iload_n 1, 1) := by decide +kernel
theorem dX11_found_84 : decode cX11_found 84 = .ok (.iconst 2, 1) := by decide +kernel
theorem dX11_found_85 : decode cX11_found 85 = .ok (.if_icmp .ne 7, 3) := by decide +kernel
theorem dX11_found_88 : decode cX11_found 88 = .ok (.iconst 1, 1) := by decide +kernel
theorem dX11_found_89 : decode cX11_found 89 = .ok (.goto 4, 3) := by decide +kernel
theorem dX11_found_92 : decode cX11_found 92 = .ok (.iconst 0, 1) := by decide +kernel
theorem dX11_found_93 : decode cX11_found 93 = .ok (.invokevirtual 255, 3) := by decide +kernel
theorem dX11_found_96 : decode cX11_found 96 = .ok (.ireturn, 1) := by decide +kernel
theorem dX11_found_97 : decode cX11_found 97 = .ok (.aload_n 0, 1) := by decide +kernel
theorem dX11_found_98 : decode cX11_found 98 = .ok (.invokevirtual 259, 3) := by decide +kernel
theorem dX11_found_101 : decode cX11_found 101 = .ok (.ireturn, 1) := by decide +kernel
theorem dX11_found_102 : decode cX11_found 102 = .ok (.iload_n 1, 1) := by decide +kernel
theorem dX11_found_103 : decode cX11_found 103 = .ok (.iconst 5, 1) := by decide +kernel
theorem dX11_found_104 : decode cX11_found 104 = .ok (.if_icmp .ne 10, 3) := by decide +kernel
theorem dX11_found_107 : decode cX11_found 107 = .ok (.aload_n 0, 1) := by decide +kernel
theorem dX11_found_108 : decode cX11_found 108 = .ok (.invokevirtual 262, 3) := by decide +kernel
theorem dX11_found_111 : decode cX11_found 111 = .ok (.goto 7, 3) := by decide +kernel
theorem dX11_found_114 : decode cX11_found 114 = .ok (.aload_n 0, 1) := by decide +kernel
theorem dX11_found_115 : decode cX11_found 115 = .ok (.invokevirtual 265, 3) := by decide +kernel
theorem dX11_found_118 : decode cX11_found 118 = .ok (.istore_n 2, 1) := by decide +kernel
theorem dX11_found_119 : decode cX11_found 119 = .ok (.iload_n 2, 1) := by decide +kernel
theorem dX11_found_120 : decode cX11_found 120 = .ok (.ifCond .ge 8, 3) := by decide +kernel
theorem dX11_found_123 : decode cX11_found 123 = .ok (.bipush (-5), 2) := by decide +kernel
theorem dX11_found_125 : decode cX11_found 125 = .ok (.goto 9, 3) := by decide +kernel
theorem dX11_found_128 : decode cX11_found 128 = .ok (.aload_n 0, 1) := by decide +kernel
theorem dX11_found_129 : decode cX11_found 129 = .ok (.getfield 49, 3) := by decide +kernel
theorem dX11_found_132 : decode cX11_found 132 = .ok (.iload_n 2, 1) := by decide +kernel
theorem dX11_found_133 : decode cX11_found 133 = .ok (.iaload, 1) := by decide +kernel
theorem dX11_found_134 : decode cX11_found 134 = .ok (.ireturn, 1) := by decide +kernel
theorem dX11_found_135 : decode cX11_found 135 = .ok (.iconst (-1), 1) := by decide +kernel
theorem dX11_found_136 : decode cX11_found 136 = .ok (.aload_n 0, 1) := by decide +kernel
theorem dX11_found_137 : decode cX11_found 137 = .ok (.sipush 600, 3) := by decide +kernel
theorem dX11_found_140 : decode cX11_found 140 = .ok (.invokevirtual 268, 3) := by decide +kernel
theorem dX11_found_143 : decode cX11_found 143 = .ok (.isub, 1) := by decide +kernel
theorem dX11_found_144 : decode cX11_found 144 = .ok (.ireturn, 1) := by decide +kernel
theorem dX11_found_145 : decode cX11_found 145 = .ok (.aload_n 0, 1) := by decide +kernel
theorem dX11_found_146 : decode cX11_found 146 = .ok (.invokevirtual 271, 3) := by decide +kernel
theorem dX11_found_149 : decode cX11_found 149 = .ok (.ifCond .eq 7, 3) := by decide +kernel
theorem dX11_found_152 : decode cX11_found 152 = .ok (.iconst 1, 1) := by decide +kernel
theorem dX11_found_153 : decode cX11_found 153 = .ok (.goto 4, 3) := by decide +kernel
theorem dX11_found_156 : decode cX11_found 156 = .ok (.iconst 0, 1) := by decide +kernel
theorem dX11_found_157 : decode cX11_found 157 = .ok (.ireturn, 1) := by decide +kernel
theorem dX11_frees_0 : decode cX11_frees 0 = .ok (.aload_n 0, 1) := by decide +kernel
theorem dX11_frees_1 : decode cX11_frees 1 = .ok (.getfield 16, 3) := by decide +kernel
theorem dX11_frees_4 : decode cX11_frees 4 = .ok (.bipush 12, 2) := by decide +kernel
theorem dX11_frees_6 : decode cX11_frees 6 = .ok (.iload_n 1, 1) := by decide +kernel
theorem dX11_frees_7 : decode cX11_frees 7 = .ok (.iadd, 1) := by decide +kernel
theorem dX11_frees_8 : decode cX11_frees 8 = .ok (.iconst 0, 1) := by decide +kernel
theorem dX11_frees_9 : decode cX11_frees 9 = .ok (.iastore, 1) := by decide +kernel
theorem dX11_frees_10 : decode cX11_frees 10 = .ok (.aload_n 0, 1) := by decide +kernel
theorem dX11_frees_11 : decode cX11_frees 11 = .ok (.getfield 16, 3) := by decide +kernel
theorem dX11_frees_14 : decode cX11_frees 14 = .ok (.bipush 15, 2) := by decide +kernel
theorem dX11_frees_16 : decode cX11_frees 16 = .ok (.iload_n 1, 1) := by decide +kernel
theorem dX11_frees_17 : decode cX11_frees 17 = .ok (.iadd, 1) := by decide +kernel
theorem dX11_frees_18 : decode cX11_frees 18 = .ok (.iconst 0, 1) := by decide +kernel
theorem dX11_frees_19 : decode cX11_frees 19 = .ok (.iastore, 1) := by decide +kernel
theorem dX11_frees_20 : decode cX11_frees 20 = .ok (.aload_n 0, 1) := by decide +kernel
theorem dX11_frees_21 : decode cX11_frees 21 = .ok (.getfield 16, 3) := by decide +kernel
theorem dX11_frees_24 : decode cX11_frees 24 = .ok (.bipush 18, 2) := by decide +kernel
theorem dX11_frees_26 : decode cX11_frees 26 = .ok (.iload_n 1, 1) := by decide +kernel
theorem dX11_frees_27 : decode cX11_frees 27 = .ok (.iadd, 1) := by decide +kernel
theorem dX11_frees_28 : decode cX11_frees 28 = .ok (.iaload, 1) := by decide +kernel
theorem dX11_frees_29 : decode cX11_frees 29 = .ok (.ifCond .le 62, 3) := by decide +kernel
theorem dX11_frees_32 : decode cX11_frees 32 = .ok (.aload_n 0, 1) := by decide +kernel
theorem dX11_frees_33 : decode cX11_frees 33 = .ok (.bipush 18, 2) := by decide +kernel
theorem dX11_frees_35 : decode cX11_frees 35 = .ok (.bipush 21, 2) := by decide +kernel
theorem dX11_frees_37 : decode cX11_frees 37 = .ok (.iload_n 1, 1) := by decide +kernel
theorem dX11_frees_38 : decode cX11_frees 38 = .ok (.invokevirtual 154, 3) := by decide +kernel
theorem dX11_frees_41 : decode cX11_frees 41 = .ok (.istore_n 2, 1) := by decide +kernel
theorem dX11_frees_42 : decode cX11_frees 42 = .ok (.aload_n 0, 1) := by decide +kernel
theorem dX11_frees_43 : decode cX11_frees 43 = .ok (.getfield 16, 3) := by decide +kernel
theorem dX11_frees_46 : decode cX11_frees 46 = .ok (.bipush 12, 2) := by decide +kernel
theorem dX11_frees_48 : decode cX11_frees 48 = .ok (.iload_n 1, 1) := by decide +kernel
theorem dX11_frees_49 : decode cX11_frees 49 = .ok (.iadd, 1) := by decide +kernel
theorem dX11_frees_50 : decode cX11_frees 50 = .ok (.iload_n 2, 1) := by decide +kernel
theorem dX11_frees_51 : decode cX11_frees 51 = .ok (.iconst 1, 1) := by decide +kernel
theorem dX11_frees_52 : decode cX11_frees 52 = .ok (.iadd, 1) := by decide +kernel
theorem dX11_frees_53 : decode cX11_frees 53 = .ok (.iastore, 1) := by decide +kernel
theorem dX11_frees_54 : decode cX11_frees 54 = .ok (.aload_n 0, 1) := by decide +kernel
theorem dX11_frees_55 : decode cX11_frees 55 = .ok (.getfield 16, 3) := by decide +kernel
theorem dX11_frees_58 : decode cX11_frees 58 = .ok (.bipush 15, 2) := by decide +kernel
theorem dX11_frees_60 : decode cX11_frees 60 = .ok (.iload_n 1, 1) := by decide +kernel
theorem dX11_frees_61 : decode cX11_frees 61 = .ok (.iadd, 1) := by decide +kernel
theorem dX11_frees_62 : decode cX11_frees 62 = .ok (.aload_n 0, 1) := by decide +kernel
theorem dX11_frees_63 : decode cX11_frees 63 = .ok (.getfield 16, 3) := by decide +kernel
theorem dX11_frees_66 : decode cX11_frees 66 = .ok (.bipush 8, 2) := by decide +kernel
theorem dX11_frees_68 : decode cX11_frees 68 = .ok (.iload_n 2, 1) := by decide +kernel
theorem dX11_frees_69 : decode cX11_frees 69 = .ok (.iadd, 1) := by decide +kernel
theorem dX11_frees_70 : decode cX11_frees 70 = .ok (.iaload, 1) := by decide +kernel
theorem dX11_frees_71 : decode cX11_frees 71 = .ok (.iastore, 1) := by decide +kernel
theorem dX11_frees_72 : decode cX11_frees 72 = .ok (.aload_n 0, 1) := by decide +kernel
theorem dX11_frees_73 : decode cX11_frees 73 = .ok (.getfield 16, 3) := by decide +kernel
theorem dX11_frees_76 : decode cX11_frees 76 = .ok (.bipush 8, 2) := by decide +kernel
theorem dX11_frees_78 : decode cX11_frees 78 = .ok (.iload_n 2, 1) := by decide +kernel
theorem dX11_frees_79 : decode cX11_frees 79 = .ok (.iadd, 1) := by decide +kernel
theorem dX11_frees_80 : decode cX11_frees 80 = .ok (.iconst 0, 1) := by decide +kernel
theorem dX11_frees_81 : decode cX11_frees 81 = .ok (.iastore, 1) := by decide +kernel
theorem dX11_frees_82 : decode cX11_frees 82 = .ok (.aload_n 0, 1) := by decide +kernel
theorem dX11_frees_83 : decode cX11_frees 83 = .ok (.getfield 16, 3) := by decide +kernel
theorem dX11_frees_86 : decode cX11_frees 86 = .ok (.iconst 4, 1) := by decide +kernel
theorem dX11_frees_87 : decode cX11_frees 87 = .ok (.iload_n 2, 1) := by decide +kernel
theorem dX11_frees_88 : decode cX11_frees 88 = .ok (.iadd, 1) := by decide +kernel
theorem dX11_frees_89 : decode cX11_frees 89 = .ok (.iconst 0, 1) := by decide +kernel
theorem dX11_frees_90 : decode cX11_frees 90 = .ok (.iastore, 1) := by decide +kernel
theorem dX11_frees_91 : decode cX11_frees 91 = .ok (.return_, 1) := by decide +kernel
theorem dX11_gate_0 : decode cX11_gate 0 = .ok (.iload_n 1, 1) := by decide +kernel
theorem dX11_gate_1 : decode cX11_gate 1 = .ok (.invokestatic 72, 3) := by decide +kernel
theorem dX11_gate_4 : decode cX11_gate 4 = .ok (.ifCond .ne 5, 3) := by decide +kernel
theorem dX11_gate_7 : decode cX11_gate 7 = .ok (.iconst (-1), 1) := by decide +kernel
theorem dX11_gate_8 : decode cX11_gate 8 = .ok (.ireturn, 1) := by decide +kernel
theorem dX11_gate_9 : decode cX11_gate 9 = .ok (.iload_n 2, 1) := by decide +kernel
theorem dX11_gate_10 : decode cX11_gate 10 = .ok (.tableswitch 103 0 4 #[34, 63, 73, 83, 93], 34) := by decide +kernel
theorem dX11_gate_44 : decode cX11_gate 44 = .ok (.aload_n 0, 1) := by decide +kernel
theorem dX11_gate_45 : decode cX11_gate 45 = .ok (.getfield 9, 3) := by decide +kernel
theorem dX11_gate_48 : decode cX11_gate 48 = .ok (.bipush 12, 2) := by decide +kernel
theorem dX11_gate_50 : decode cX11_gate 50 = .ok (.iload_n 1, 1) := by decide +kernel
theorem dX11_gate_51 : decode cX11_gate 51 = .ok (.iadd, 1) := by decide +kernel
theorem dX11_gate_52 : decode cX11_gate 52 = .ok (.iaload, 1) := by decide +kernel
theorem dX11_gate_53 : decode cX11_gate 53 = .ok (.ifCond .ne 8, 3) := by decide +kernel
theorem dX11_gate_56 : decode cX11_gate 56 = .ok (.bipush (-5), 2) := by decide +kernel
theorem dX11_gate_58 : decode cX11_gate 58 = .ok (.goto 14, 3) := by decide +kernel
theorem dX11_gate_61 : decode cX11_gate 61 = .ok (.aload_n 0, 1) := by decide +kernel
theorem dX11_gate_62 : decode cX11_gate 62 = .ok (.getfield 9, 3) := by decide +kernel
theorem dX11_gate_65 : decode cX11_gate 65 = .ok (.bipush 12, 2) := by decide +kernel
theorem dX11_gate_67 : decode cX11_gate 67 = .ok (.iload_n 1, 1) := by decide +kernel
theorem dX11_gate_68 : decode cX11_gate 68 = .ok (.iadd, 1) := by decide +kernel
theorem dX11_gate_69 : decode cX11_gate 69 = .ok (.iaload, 1) := by decide +kernel
theorem dX11_gate_70 : decode cX11_gate 70 = .ok (.iconst 1, 1) := by decide +kernel
theorem dX11_gate_71 : decode cX11_gate 71 = .ok (.isub, 1) := by decide +kernel
theorem dX11_gate_72 : decode cX11_gate 72 = .ok (.ireturn, 1) := by decide +kernel
theorem dX11_gate_73 : decode cX11_gate 73 = .ok (.aload_n 0, 1) := by decide +kernel
theorem dX11_gate_74 : decode cX11_gate 74 = .ok (.getfield 9, 3) := by decide +kernel
theorem dX11_gate_77 : decode cX11_gate 77 = .ok (.bipush 15, 2) := by decide +kernel
theorem dX11_gate_79 : decode cX11_gate 79 = .ok (.iload_n 1, 1) := by decide +kernel
theorem dX11_gate_80 : decode cX11_gate 80 = .ok (.iadd, 1) := by decide +kernel
theorem dX11_gate_81 : decode cX11_gate 81 = .ok (.iaload, 1) := by decide +kernel
theorem dX11_gate_82 : decode cX11_gate 82 = .ok (.ireturn, 1) := by decide +kernel
theorem dX11_gate_83 : decode cX11_gate 83 = .ok (.aload_n 0, 1) := by decide +kernel
theorem dX11_gate_84 : decode cX11_gate 84 = .ok (.getfield 9, 3) := by decide +kernel
theorem dX11_gate_87 : decode cX11_gate 87 = .ok (.bipush 18, 2) := by decide +kernel
theorem dX11_gate_89 : decode cX11_gate 89 = .ok (.iload_n 1, 1) := by decide +kernel
theorem dX11_gate_90 : decode cX11_gate 90 = .ok (.iadd, 1) := by decide +kernel
theorem dX11_gate_91 : decode cX11_gate 91 = .ok (.iaload, 1) := by decide +kernel
theorem dX11_gate_92 : decode cX11_gate 92 = .ok (.ireturn, 1) := by decide +kernel
theorem dX11_gate_93 : decode cX11_gate 93 = .ok (.aload_n 0, 1) := by decide +kernel
theorem dX11_gate_94 : decode cX11_gate 94 = .ok (.getfield 9, 3) := by decide +kernel
theorem dX11_gate_97 : decode cX11_gate 97 = .ok (.bipush 33, 2) := by decide +kernel
theorem dX11_gate_99 : decode cX11_gate 99 = .ok (.iload_n 1, 1) := by decide +kernel
theorem dX11_gate_100 : decode cX11_gate 100 = .ok (.iadd, 1) := by decide +kernel
theorem dX11_gate_101 : decode cX11_gate 101 = .ok (.iaload, 1) := by decide +kernel
theorem dX11_gate_102 : decode cX11_gate 102 = .ok (.ireturn, 1) := by decide +kernel
theorem dX11_gate_103 : decode cX11_gate 103 = .ok (.aload_n 0, 1) := by decide +kernel
theorem dX11_gate_104 : decode cX11_gate 104 = .ok (.getfield 9, 3) := by decide +kernel
theorem dX11_gate_107 : decode cX11_gate 107 = .ok (.bipush 53, 2) := by decide +kernel
theorem dX11_gate_109 : decode cX11_gate 109 = .ok (.iload_n 1, 1) := by decide +kernel
theorem dX11_gate_110 : decode cX11_gate 110 = .ok (.iadd, 1) := by decide +kernel
theorem dX11_gate_111 : decode cX11_gate 111 = .ok (.iaload, 1) := by decide +kernel
theorem dX11_gate_112 : decode cX11_gate 112 = .ok (.ireturn, 1) := by decide +kernel
theorem dX11_gate_113 : decode cX11_gate 113 = .ok (.iconst (-1), 1) := by decide +kernel
theorem dX11_gate_114 : decode cX11_gate 114 = .ok (.ireturn, 1) := by decide +kernel
theorem dX11_get_0 : decode cX11_get 0 = .ok (.iload_n 1, 1) := by decide +kernel
theorem dX11_get_1 : decode cX11_get 1 = .ok (.invokestatic 203, 3) := by decide +kernel
theorem dX11_get_4 : decode cX11_get 4 = .ok (.ifCond .eq 35, 3) := by decide +kernel
theorem dX11_get_7 : decode cX11_get 7 = .ok (.iload_n 2, 1) := by decide +kernel
theorem dX11_get_8 : decode cX11_get 8 = .ok (.i2l, 1) := by decide +kernel
theorem dX11_get_9 : decode cX11_get 9 = .ok (.lconst 0, 1) := by decide +kernel
theorem dX11_get_10 : decode cX11_get 10 = .ok (.aload_n 0, 1) := by decide +kernel
theorem dX11_get_11 : decode cX11_get 11 = .ok (.getfield 58, 3) := by decide +kernel
theorem dX11_get_14 : decode cX11_get 14 = .ok (.iload_n 1, 1) := by decide +kernel
theorem dX11_get_15 : decode cX11_get 15 = .ok (.iaload, 1) := by decide +kernel
theorem dX11_get_16 : decode cX11_get 16 = .ok (.iconst 1, 1) := by decide +kernel
theorem dX11_get_17 : decode cX11_get 17 = .ok (.isub, 1) := by decide +kernel
theorem dX11_get_18 : decode cX11_get 18 = .ok (.i2l, 1) := by decide +kernel
theorem dX11_get_19 : decode cX11_get 19 = .ok (.invokestatic 64, 3) := by decide +kernel
theorem dX11_get_22 : decode cX11_get 22 = .ok (.ifCond .eq 17, 3) := by decide +kernel
theorem dX11_get_25 : decode cX11_get 25 = .ok (.aload_n 0, 1) := by decide +kernel
theorem dX11_get_26 : decode cX11_get 26 = .ok (.getfield 61, 3) := by decide +kernel
theorem dX11_get_29 : decode cX11_get 29 = .ok (.bipush 40, 2) := by decide +kernel
theorem dX11_get_31 : decode cX11_get 31 = .ok (.iload_n 1, 1) := by decide +kernel
theorem dX11_get_32 : decode cX11_get 32 = .ok (.imul, 1) := by decide +kernel
theorem dX11_get_33 : decode cX11_get 33 = .ok (.iload_n 2, 1) := by decide +kernel
theorem dX11_get_34 : decode cX11_get 34 = .ok (.iadd, 1) := by decide +kernel
theorem dX11_get_35 : decode cX11_get 35 = .ok (.iaload, 1) := by decide +kernel
theorem dX11_get_36 : decode cX11_get 36 = .ok (.goto 6, 3) := by decide +kernel
theorem dX11_get_39 : decode cX11_get 39 = .ok (.ldc_w 288, 3) := by decide +kernel
theorem dX11_get_42 : decode cX11_get 42 = .ok (.ireturn, 1) := by decide +kernel
theorem dX11_goal_0 : decode cX11_goal 0 = .ok (.aload_n 0, 1) := by decide +kernel
theorem dX11_goal_1 : decode cX11_goal 1 = .ok (.invokevirtual 252, 3) := by decide +kernel
theorem dX11_goal_4 : decode cX11_goal 4 = .ok (.iload_n 1, 1) := by decide +kernel
theorem dX11_goal_5 : decode cX11_goal 5 = .ok (.ifCond .ne 10, 3) := by decide +kernel
theorem dX11_goal_8 : decode cX11_goal 8 = .ok (.aload_n 0, 1) := by decide +kernel
theorem dX11_goal_9 : decode cX11_goal 9 = .ok (.invokevirtual 262, 3) := by decide +kernel
theorem dX11_goal_12 : decode cX11_goal 12 = .ok (.goto 7, 3) := by decide +kernel
theorem dX11_goal_15 : decode cX11_goal 15 = .ok (.aload_n 0, 1) := by decide +kernel
theorem dX11_goal_16 : decode cX11_goal 16 = .ok (.invokevirtual 265, 3) := by decide +kernel
theorem dX11_goal_19 : decode cX11_goal 19 = .ok (.ireturn, 1) := by decide +kernel
theorem dX11_has_0 : decode cX11_has 0 = .ok (.iload_n 0, 1) := by decide +kernel
theorem dX11_has_1 : decode cX11_has 1 = .ok (.iload_n 1, 1) := by decide +kernel
theorem dX11_has_2 : decode cX11_has 2 = .ok (.ishr, 1) := by decide +kernel
theorem dX11_has_3 : decode cX11_has 3 = .ok (.iconst 1, 1) := by decide +kernel
theorem dX11_has_4 : decode cX11_has 4 = .ok (.iand, 1) := by decide +kernel
theorem dX11_has_5 : decode cX11_has 5 = .ok (.iconst 1, 1) := by decide +kernel
theorem dX11_has_6 : decode cX11_has 6 = .ok (.if_icmp .ne 7, 3) := by decide +kernel
theorem dX11_has_9 : decode cX11_has 9 = .ok (.iconst 1, 1) := by decide +kernel
theorem dX11_has_10 : decode cX11_has 10 = .ok (.goto 4, 3) := by decide +kernel
theorem dX11_has_13 : decode cX11_has 13 = .ok (.iconst 0, 1) := by decide +kernel
theorem dX11_has_14 : decode cX11_has 14 = .ok (.ireturn, 1) := by decide +kernel
theorem dX11_here_0 : decode cX11_here 0 = .ok (.aload_n 0, 1) := by decide +kernel
theorem dX11_here_1 : decode cX11_here 1 = .ok (.getfield 89, 3) := by decide +kernel
theorem dX11_here_4 : decode cX11_here 4 = .ok (.aload_n 0, 1) := by decide +kernel
theorem dX11_here_5 : decode cX11_here 5 = .ok (.getfield 85, 3) := by decide +kernel
theorem dX11_here_8 : decode cX11_here 8 = .ok (.if_icmp .ge 15, 3) := by decide +kernel
theorem dX11_here_11 : decode cX11_here 11 = .ok (.aload_n 0, 1) := by decide +kernel
theorem dX11_here_12 : decode cX11_here 12 = .ok (.getfield 25, 3) := by decide +kernel
theorem dX11_here_15 : decode cX11_here 15 = .ok (.aload_n 0, 1) := by decide +kernel
theorem dX11_here_16 : decode cX11_here 16 = .ok (.getfield 89, 3) := by decide +kernel
theorem dX11_here_19 : decode cX11_here 19 = .ok (.iaload, 1) := by decide +kernel
theorem dX11_here_20 : decode cX11_here 20 = .ok (.goto 4, 3) := by decide +kernel
theorem dX11_here_23 : decode cX11_here 23 = .ok (.iconst (-1), 1) := by decide +kernel
theorem dX11_here_24 : decode cX11_here 24 = .ok (.ireturn, 1) := by decide +kernel
theorem dX11_holds_0 : decode cX11_holds 0 = .ok (.aload_n 0, 1) := by decide +kernel
theorem dX11_holds_1 : decode cX11_holds 1 = .ok (.aload_n 0, 1) := by decide +kernel
theorem dX11_holds_2 : decode cX11_holds 2 = .ok (.getfield 9, 3) := by decide +kernel
theorem dX11_holds_5 : decode cX11_holds 5 = .ok (.iconst 0, 1) := by decide +kernel
theorem dX11_holds_6 : decode cX11_holds 6 = .ok (.invokevirtual 241, 3) := by decide +kernel
theorem dX11_holds_9 : decode cX11_holds 9 = .ok (.ifCond .eq 7, 3) := by decide +kernel
theorem dX11_holds_12 : decode cX11_holds 12 = .ok (.iconst 1, 1) := by decide +kernel
theorem dX11_holds_13 : decode cX11_holds 13 = .ok (.goto 4, 3) := by decide +kernel
theorem dX11_holds_16 : decode cX11_holds 16 = .ok (.iconst 0, 1) := by decide +kernel
theorem dX11_holds_17 : decode cX11_holds 17 = .ok (.ireturn, 1) := by decide +kernel
theorem dX11_image_0 : decode cX11_image 0 = .ok (.aload_n 0, 1) := by decide +kernel
theorem dX11_image_1 : decode cX11_image 1 = .ok (.getfield 9, 3) := by decide +kernel
theorem dX11_image_4 : decode cX11_image 4 = .ok (.iconst 0, 1) := by decide +kernel
theorem dX11_image_5 : decode cX11_image 5 = .ok (.aload_n 0, 1) := by decide +kernel
theorem dX11_image_6 : decode cX11_image 6 = .ok (.getfield 13, 3) := by decide +kernel
theorem dX11_image_9 : decode cX11_image 9 = .ok (.iconst 0, 1) := by decide +kernel
theorem dX11_image_10 : decode cX11_image 10 = .ok (.sipush 253, 3) := by decide +kernel
theorem dX11_image_13 : decode cX11_image 13 = .ok (.invokestatic 146, 3) := by decide +kernel
theorem dX11_image_16 : decode cX11_image 16 = .ok (.aload_n 0, 1) := by decide +kernel
theorem dX11_image_17 : decode cX11_image 17 = .ok (.iconst 1, 1) := by decide +kernel
theorem dX11_image_18 : decode cX11_image 18 = .ok (.putfield 289, 3) := by decide +kernel
theorem dX11_image_21 : decode cX11_image 21 = .ok (.aload_n 0, 1) := by decide +kernel
theorem dX11_image_22 : decode cX11_image 22 = .ok (.getfield 9, 3) := by decide +kernel
theorem dX11_image_25 : decode cX11_image 25 = .ok (.bipush 52, 2) := by decide +kernel
theorem dX11_image_27 : decode cX11_image 27 = .ok (.iaload, 1) := by decide +kernel
theorem dX11_image_28 : decode cX11_image 28 = .ok (.ireturn, 1) := by decide +kernel
theorem dX11_in_0 : decode cX11_in 0 = .ok (.lload_n 0, 1) := by decide +kernel
theorem dX11_in_1 : decode cX11_in 1 = .ok (.lload_n 2, 1) := by decide +kernel
theorem dX11_in_2 : decode cX11_in 2 = .ok (.lcmp, 1) := by decide +kernel
theorem dX11_in_3 : decode cX11_in 3 = .ok (.ifCond .lt 14, 3) := by decide +kernel
theorem dX11_in_6 : decode cX11_in 6 = .ok (.lload_n 0, 1) := by decide +kernel
theorem dX11_in_7 : decode cX11_in 7 = .ok (.lload 4, 2) := by decide +kernel
theorem dX11_in_9 : decode cX11_in 9 = .ok (.lcmp, 1) := by decide +kernel
theorem dX11_in_10 : decode cX11_in 10 = .ok (.ifCond .gt 7, 3) := by decide +kernel
theorem dX11_in_13 : decode cX11_in 13 = .ok (.iconst 1, 1) := by decide +kernel
theorem dX11_in_14 : decode cX11_in 14 = .ok (.goto 4, 3) := by decide +kernel
theorem dX11_in_17 : decode cX11_in 17 = .ok (.iconst 0, 1) := by decide +kernel
theorem dX11_in_18 : decode cX11_in 18 = .ok (.ireturn, 1) := by decide +kernel
theorem dX11_init_0 : decode cX11_init 0 = .ok (.aload_n 0, 1) := by decide +kernel
theorem dX11_init_1 : decode cX11_init 1 = .ok (.invokespecial 1, 3) := by decide +kernel
theorem dX11_init_4 : decode cX11_init 4 = .ok (.aload_n 0, 1) := by decide +kernel
theorem dX11_init_5 : decode cX11_init 5 = .ok (.sipush 253, 3) := by decide +kernel
theorem dX11_init_8 : decode cX11_init 8 = .ok (.newarray .int, 2) := by decide +kernel
theorem dX11_init_10 : decode cX11_init 10 = .ok (.putfield 9, 3) := by decide +kernel
theorem dX11_init_13 : decode cX11_init 13 = .ok (.aload_n 0, 1) := by decide +kernel
theorem dX11_init_14 : decode cX11_init 14 = .ok (.sipush 253, 3) := by decide +kernel
theorem dX11_init_17 : decode cX11_init 17 = .ok (.newarray .int, 2) := by decide +kernel
theorem dX11_init_19 : decode cX11_init 19 = .ok (.putfield 13, 3) := by decide +kernel
theorem dX11_init_22 : decode cX11_init 22 = .ok (.aload_n 0, 1) := by decide +kernel
theorem dX11_init_23 : decode cX11_init 23 = .ok (.bipush 52, 2) := by decide +kernel
theorem dX11_init_25 : decode cX11_init 25 = .ok (.newarray .int, 2) := by decide +kernel
theorem dX11_init_27 : decode cX11_init 27 = .ok (.putfield 16, 3) := by decide +kernel
theorem dX11_init_30 : decode cX11_init 30 = .ok (.aload_n 0, 1) := by decide +kernel
theorem dX11_init_31 : decode cX11_init 31 = .ok (.iconst 4, 1) := by decide +kernel
theorem dX11_init_32 : decode cX11_init 32 = .ok (.newarray .int, 2) := by decide +kernel
theorem dX11_init_34 : decode cX11_init 34 = .ok (.putfield 19, 3) := by decide +kernel
theorem dX11_init_37 : decode cX11_init 37 = .ok (.aload_n 0, 1) := by decide +kernel
theorem dX11_init_38 : decode cX11_init 38 = .ok (.iconst 4, 1) := by decide +kernel
theorem dX11_init_39 : decode cX11_init 39 = .ok (.newarray .int, 2) := by decide +kernel
theorem dX11_init_41 : decode cX11_init 41 = .ok (.putfield 22, 3) := by decide +kernel
theorem dX11_init_44 : decode cX11_init 44 = .ok (.aload_n 0, 1) := by decide +kernel
theorem dX11_init_45 : decode cX11_init 45 = .ok (.bipush 120, 2) := by decide +kernel
end
section
theorem dX11_init_47 : decode cX11_init 47 = .ok (.newarray .int, 2) := by decide +kernel
theorem dX11_init_49 : decode cX11_init 49 = .ok (.putfield 25, 3) := by decide +kernel
theorem dX11_init_52 : decode cX11_init 52 = .ok (.aload_n 0, 1) := by decide +kernel
theorem dX11_init_53 : decode cX11_init 53 = .ok (.bipush 48, 2) := by decide +kernel
theorem dX11_init_55 : decode cX11_init 55 = .ok (.newarray .int, 2) := by decide +kernel
theorem dX11_init_57 : decode cX11_init 57 = .ok (.putfield 28, 3) := by decide +kernel
theorem dX11_init_60 : decode cX11_init 60 = .ok (.aload_n 0, 1) := by decide +kernel
theorem dX11_init_61 : decode cX11_init 61 = .ok (.bipush 54, 2) := by decide +kernel
theorem dX11_init_63 : decode cX11_init 63 = .ok (.newarray .int, 2) := by decide +kernel
theorem dX11_init_65 : decode cX11_init 65 = .ok (.dup, 1) := by decide +kernel
theorem dX11_init_66 : decode cX11_init 66 = .ok (.iconst 0, 1) := by decide +kernel
theorem dX11_init_67 : decode cX11_init 67 = .ok (.bipush 101, 2) := by decide +kernel
theorem dX11_init_69 : decode cX11_init 69 = .ok (.iastore, 1) := by decide +kernel
theorem dX11_init_70 : decode cX11_init 70 = .ok (.dup, 1) := by decide +kernel
theorem dX11_init_71 : decode cX11_init 71 = .ok (.iconst 1, 1) := by decide +kernel
theorem dX11_init_72 : decode cX11_init 72 = .ok (.bipush 110, 2) := by decide +kernel
theorem dX11_init_74 : decode cX11_init 74 = .ok (.iastore, 1) := by decide +kernel
theorem dX11_init_75 : decode cX11_init 75 = .ok (.dup, 1) := by decide +kernel
theorem dX11_init_76 : decode cX11_init 76 = .ok (.iconst 2, 1) := by decide +kernel
theorem dX11_init_77 : decode cX11_init 77 = .ok (.bipush 116, 2) := by decide +kernel
theorem dX11_init_79 : decode cX11_init 79 = .ok (.iastore, 1) := by decide +kernel
theorem dX11_init_80 : decode cX11_init 80 = .ok (.dup, 1) := by decide +kernel
theorem dX11_init_81 : decode cX11_init 81 = .ok (.iconst 3, 1) := by decide +kernel
theorem dX11_init_82 : decode cX11_init 82 = .ok (.bipush 101, 2) := by decide +kernel
theorem dX11_init_84 : decode cX11_init 84 = .ok (.iastore, 1) := by decide +kernel
theorem dX11_init_85 : decode cX11_init 85 = .ok (.dup, 1) := by decide +kernel
theorem dX11_init_86 : decode cX11_init 86 = .ok (.iconst 4, 1) := by decide +kernel
theorem dX11_init_87 : decode cX11_init 87 = .ok (.bipush 114, 2) := by decide +kernel
theorem dX11_init_89 : decode cX11_init 89 = .ok (.iastore, 1) := by decide +kernel
theorem dX11_init_90 : decode cX11_init 90 = .ok (.dup, 1) := by decide +kernel
theorem dX11_init_91 : decode cX11_init 91 = .ok (.iconst 5, 1) := by decide +kernel
theorem dX11_init_92 : decode cX11_init 92 = .ok (.iconst 0, 1) := by decide +kernel
theorem dX11_init_93 : decode cX11_init 93 = .ok (.iastore, 1) := by decide +kernel
theorem dX11_init_94 : decode cX11_init 94 = .ok (.dup, 1) := by decide +kernel
theorem dX11_init_95 : decode cX11_init 95 = .ok (.bipush 6, 2) := by decide +kernel
theorem dX11_init_97 : decode cX11_init 97 = .ok (.bipush 108, 2) := by decide +kernel
theorem dX11_init_99 : decode cX11_init 99 = .ok (.iastore, 1) := by decide +kernel
theorem dX11_init_100 : decode cX11_init 100 = .ok (.dup, 1) := by decide +kernel
theorem dX11_init_101 : decode cX11_init 101 = .ok (.bipush 7, 2) := by decide +kernel
theorem dX11_init_103 : decode cX11_init 103 = .ok (.bipush 101, 2) := by decide +kernel
theorem dX11_init_105 : decode cX11_init 105 = .ok (.iastore, 1) := by decide +kernel
theorem dX11_init_106 : decode cX11_init 106 = .ok (.dup, 1) := by decide +kernel
theorem dX11_init_107 : decode cX11_init 107 = .ok (.bipush 8, 2) := by decide +kernel
theorem dX11_init_109 : decode cX11_init 109 = .ok (.bipush 97, 2) := by decide +kernel
theorem dX11_init_111 : decode cX11_init 111 = .ok (.iastore, 1) := by decide +kernel
theorem dX11_init_112 : decode cX11_init 112 = .ok (.dup, 1) := by decide +kernel
theorem dX11_init_113 : decode cX11_init 113 = .ok (.bipush 9, 2) := by decide +kernel
theorem dX11_init_115 : decode cX11_init 115 = .ok (.bipush 118, 2) := by decide +kernel
theorem dX11_init_117 : decode cX11_init 117 = .ok (.iastore, 1) := by decide +kernel
theorem dX11_init_118 : decode cX11_init 118 = .ok (.dup, 1) := by decide +kernel
theorem dX11_init_119 : decode cX11_init 119 = .ok (.bipush 10, 2) := by decide +kernel
theorem dX11_init_121 : decode cX11_init 121 = .ok (.bipush 101, 2) := by decide +kernel
theorem dX11_init_123 : decode cX11_init 123 = .ok (.iastore, 1) := by decide +kernel
theorem dX11_init_124 : decode cX11_init 124 = .ok (.dup, 1) := by decide +kernel
theorem dX11_init_125 : decode cX11_init 125 = .ok (.bipush 11, 2) := by decide +kernel
theorem dX11_init_127 : decode cX11_init 127 = .ok (.iconst 0, 1) := by decide +kernel
theorem dX11_init_128 : decode cX11_init 128 = .ok (.iastore, 1) := by decide +kernel
theorem dX11_init_129 : decode cX11_init 129 = .ok (.dup, 1) := by decide +kernel
theorem dX11_init_130 : decode cX11_init 130 = .ok (.bipush 12, 2) := by decide +kernel
theorem dX11_init_132 : decode cX11_init 132 = .ok (.bipush 119, 2) := by decide +kernel
theorem dX11_init_134 : decode cX11_init 134 = .ok (.iastore, 1) := by decide +kernel
theorem dX11_init_135 : decode cX11_init 135 = .ok (.dup, 1) := by decide +kernel
theorem dX11_init_136 : decode cX11_init 136 = .ok (.bipush 13, 2) := by decide +kernel
theorem dX11_init_138 : decode cX11_init 138 = .ok (.bipush 97, 2) := by decide +kernel
theorem dX11_init_140 : decode cX11_init 140 = .ok (.iastore, 1) := by decide +kernel
theorem dX11_init_141 : decode cX11_init 141 = .ok (.dup, 1) := by decide +kernel
theorem dX11_init_142 : decode cX11_init 142 = .ok (.bipush 14, 2) := by decide +kernel
theorem dX11_init_144 : decode cX11_init 144 = .ok (.bipush 105, 2) := by decide +kernel
theorem dX11_init_146 : decode cX11_init 146 = .ok (.iastore, 1) := by decide +kernel
theorem dX11_init_147 : decode cX11_init 147 = .ok (.dup, 1) := by decide +kernel
theorem dX11_init_148 : decode cX11_init 148 = .ok (.bipush 15, 2) := by decide +kernel
theorem dX11_init_150 : decode cX11_init 150 = .ok (.bipush 116, 2) := by decide +kernel
theorem dX11_init_152 : decode cX11_init 152 = .ok (.iastore, 1) := by decide +kernel
theorem dX11_init_153 : decode cX11_init 153 = .ok (.dup, 1) := by decide +kernel
theorem dX11_init_154 : decode cX11_init 154 = .ok (.bipush 16, 2) := by decide +kernel
theorem dX11_init_156 : decode cX11_init 156 = .ok (.iconst 0, 1) := by decide +kernel
theorem dX11_init_157 : decode cX11_init 157 = .ok (.iastore, 1) := by decide +kernel
theorem dX11_init_158 : decode cX11_init 158 = .ok (.dup, 1) := by decide +kernel
theorem dX11_init_159 : decode cX11_init 159 = .ok (.bipush 17, 2) := by decide +kernel
theorem dX11_init_161 : decode cX11_init 161 = .ok (.iconst 0, 1) := by decide +kernel
theorem dX11_init_162 : decode cX11_init 162 = .ok (.iastore, 1) := by decide +kernel
theorem dX11_init_163 : decode cX11_init 163 = .ok (.dup, 1) := by decide +kernel
theorem dX11_init_164 : decode cX11_init 164 = .ok (.bipush 18, 2) := by decide +kernel
theorem dX11_init_166 : decode cX11_init 166 = .ok (.bipush 110, 2) := by decide +kernel
theorem dX11_init_168 : decode cX11_init 168 = .ok (.iastore, 1) := by decide +kernel
theorem dX11_init_169 : decode cX11_init 169 = .ok (.dup, 1) := by decide +kernel
theorem dX11_init_170 : decode cX11_init 170 = .ok (.bipush 19, 2) := by decide +kernel
theorem dX11_init_172 : decode cX11_init 172 = .ok (.bipush 111, 2) := by decide +kernel
theorem dX11_init_174 : decode cX11_init 174 = .ok (.iastore, 1) := by decide +kernel
theorem dX11_init_175 : decode cX11_init 175 = .ok (.dup, 1) := by decide +kernel
theorem dX11_init_176 : decode cX11_init 176 = .ok (.bipush 20, 2) := by decide +kernel
theorem dX11_init_178 : decode cX11_init 178 = .ok (.bipush 116, 2) := by decide +kernel
theorem dX11_init_180 : decode cX11_init 180 = .ok (.iastore, 1) := by decide +kernel
theorem dX11_init_181 : decode cX11_init 181 = .ok (.dup, 1) := by decide +kernel
theorem dX11_init_182 : decode cX11_init 182 = .ok (.bipush 21, 2) := by decide +kernel
theorem dX11_init_184 : decode cX11_init 184 = .ok (.bipush 105, 2) := by decide +kernel
theorem dX11_init_186 : decode cX11_init 186 = .ok (.iastore, 1) := by decide +kernel
theorem dX11_init_187 : decode cX11_init 187 = .ok (.dup, 1) := by decide +kernel
theorem dX11_init_188 : decode cX11_init 188 = .ok (.bipush 22, 2) := by decide +kernel
theorem dX11_init_190 : decode cX11_init 190 = .ok (.bipush 102, 2) := by decide +kernel
theorem dX11_init_192 : decode cX11_init 192 = .ok (.iastore, 1) := by decide +kernel
theorem dX11_init_193 : decode cX11_init 193 = .ok (.dup, 1) := by decide +kernel
theorem dX11_init_194 : decode cX11_init 194 = .ok (.bipush 23, 2) := by decide +kernel
theorem dX11_init_196 : decode cX11_init 196 = .ok (.bipush 121, 2) := by decide +kernel
theorem dX11_init_198 : decode cX11_init 198 = .ok (.iastore, 1) := by decide +kernel
theorem dX11_init_199 : decode cX11_init 199 = .ok (.dup, 1) := by decide +kernel
theorem dX11_init_200 : decode cX11_init 200 = .ok (.bipush 24, 2) := by decide +kernel
theorem dX11_init_202 : decode cX11_init 202 = .ok (.bipush 97, 2) := by decide +kernel
theorem dX11_init_204 : decode cX11_init 204 = .ok (.iastore, 1) := by decide +kernel
theorem dX11_init_205 : decode cX11_init 205 = .ok (.dup, 1) := by decide +kernel
theorem dX11_init_206 : decode cX11_init 206 = .ok (.bipush 25, 2) := by decide +kernel
theorem dX11_init_208 : decode cX11_init 208 = .ok (.bipush 108, 2) := by decide +kernel
theorem dX11_init_210 : decode cX11_init 210 = .ok (.iastore, 1) := by decide +kernel
theorem dX11_init_211 : decode cX11_init 211 = .ok (.dup, 1) := by decide +kernel
theorem dX11_init_212 : decode cX11_init 212 = .ok (.bipush 26, 2) := by decide +kernel
theorem dX11_init_214 : decode cX11_init 214 = .ok (.bipush 108, 2) := by decide +kernel
theorem dX11_init_216 : decode cX11_init 216 = .ok (.iastore, 1) := by decide +kernel
theorem dX11_init_217 : decode cX11_init 217 = .ok (.dup, 1) := by decide +kernel
theorem dX11_init_218 : decode cX11_init 218 = .ok (.bipush 27, 2) := by decide +kernel
theorem dX11_init_220 : decode cX11_init 220 = .ok (.iconst 0, 1) := by decide +kernel
theorem dX11_init_221 : decode cX11_init 221 = .ok (.iastore, 1) := by decide +kernel
theorem dX11_init_222 : decode cX11_init 222 = .ok (.dup, 1) := by decide +kernel
theorem dX11_init_223 : decode cX11_init 223 = .ok (.bipush 28, 2) := by decide +kernel
theorem dX11_init_225 : decode cX11_init 225 = .ok (.iconst 0, 1) := by decide +kernel
theorem dX11_init_226 : decode cX11_init 226 = .ok (.iastore, 1) := by decide +kernel
theorem dX11_init_227 : decode cX11_init 227 = .ok (.dup, 1) := by decide +kernel
theorem dX11_init_228 : decode cX11_init 228 = .ok (.bipush 29, 2) := by decide +kernel
theorem dX11_init_230 : decode cX11_init 230 = .ok (.iconst 0, 1) := by decide +kernel
theorem dX11_init_231 : decode cX11_init 231 = .ok (.iastore, 1) := by decide +kernel
theorem dX11_init_232 : decode cX11_init 232 = .ok (.dup, 1) := by decide +kernel
theorem dX11_init_233 : decode cX11_init 233 = .ok (.bipush 30, 2) := by decide +kernel
theorem dX11_init_235 : decode cX11_init 235 = .ok (.bipush 97, 2) := by decide +kernel
theorem dX11_init_237 : decode cX11_init 237 = .ok (.iastore, 1) := by decide +kernel
theorem dX11_init_238 : decode cX11_init 238 = .ok (.dup, 1) := by decide +kernel
theorem dX11_init_239 : decode cX11_init 239 = .ok (.bipush 31, 2) := by decide +kernel
theorem dX11_init_241 : decode cX11_init 241 = .ok (.bipush 100, 2) := by decide +kernel
theorem dX11_init_243 : decode cX11_init 243 = .ok (.iastore, 1) := by decide +kernel
theorem dX11_init_244 : decode cX11_init 244 = .ok (.dup, 1) := by decide +kernel
theorem dX11_init_245 : decode cX11_init 245 = .ok (.bipush 32, 2) := by decide +kernel
theorem dX11_init_247 : decode cX11_init 247 = .ok (.bipush 100, 2) := by decide +kernel
theorem dX11_init_249 : decode cX11_init 249 = .ok (.iastore, 1) := by decide +kernel
theorem dX11_init_250 : decode cX11_init 250 = .ok (.dup, 1) := by decide +kernel
theorem dX11_init_251 : decode cX11_init 251 = .ok (.bipush 33, 2) := by decide +kernel
theorem dX11_init_253 : decode cX11_init 253 = .ok (.iconst 0, 1) := by decide +kernel
theorem dX11_init_254 : decode cX11_init 254 = .ok (.iastore, 1) := by decide +kernel
theorem dX11_init_255 : decode cX11_init 255 = .ok (.dup, 1) := by decide +kernel
theorem dX11_init_256 : decode cX11_init 256 = .ok (.bipush 34, 2) := by decide +kernel
theorem dX11_init_258 : decode cX11_init 258 = .ok (.iconst 0, 1) := by decide +kernel
theorem dX11_init_259 : decode cX11_init 259 = .ok (.iastore, 1) := by decide +kernel
theorem dX11_init_260 : decode cX11_init 260 = .ok (.dup, 1) := by decide +kernel
theorem dX11_init_261 : decode cX11_init 261 = .ok (.bipush 35, 2) := by decide +kernel
theorem dX11_init_263 : decode cX11_init 263 = .ok (.iconst 0, 1) := by decide +kernel
theorem dX11_init_264 : decode cX11_init 264 = .ok (.iastore, 1) := by decide +kernel
theorem dX11_init_265 : decode cX11_init 265 = .ok (.dup, 1) := by decide +kernel
theorem dX11_init_266 : decode cX11_init 266 = .ok (.bipush 36, 2) := by decide +kernel
theorem dX11_init_268 : decode cX11_init 268 = .ok (.bipush 115, 2) := by decide +kernel
theorem dX11_init_270 : decode cX11_init 270 = .ok (.iastore, 1) := by decide +kernel
theorem dX11_init_271 : decode cX11_init 271 = .ok (.dup, 1) := by decide +kernel
theorem dX11_init_272 : decode cX11_init 272 = .ok (.bipush 37, 2) := by decide +kernel
theorem dX11_init_274 : decode cX11_init 274 = .ok (.bipush 101, 2) := by decide +kernel
theorem dX11_init_276 : decode cX11_init 276 = .ok (.iastore, 1) := by decide +kernel
theorem dX11_init_277 : decode cX11_init 277 = .ok (.dup, 1) := by decide +kernel
theorem dX11_init_278 : decode cX11_init 278 = .ok (.bipush 38, 2) := by decide +kernel
theorem dX11_init_280 : decode cX11_init 280 = .ok (.bipush 116, 2) := by decide +kernel
theorem dX11_init_282 : decode cX11_init 282 = .ok (.iastore, 1) := by decide +kernel
theorem dX11_init_283 : decode cX11_init 283 = .ok (.dup, 1) := by decide +kernel
theorem dX11_init_284 : decode cX11_init 284 = .ok (.bipush 39, 2) := by decide +kernel
theorem dX11_init_286 : decode cX11_init 286 = .ok (.iconst 0, 1) := by decide +kernel
theorem dX11_init_287 : decode cX11_init 287 = .ok (.iastore, 1) := by decide +kernel
theorem dX11_init_288 : decode cX11_init 288 = .ok (.dup, 1) := by decide +kernel
theorem dX11_init_289 : decode cX11_init 289 = .ok (.bipush 40, 2) := by decide +kernel
theorem dX11_init_291 : decode cX11_init 291 = .ok (.iconst 0, 1) := by decide +kernel
theorem dX11_init_292 : decode cX11_init 292 = .ok (.iastore, 1) := by decide +kernel
theorem dX11_init_293 : decode cX11_init 293 = .ok (.dup, 1) := by decide +kernel
theorem dX11_init_294 : decode cX11_init 294 = .ok (.bipush 41, 2) := by decide +kernel
theorem dX11_init_296 : decode cX11_init 296 = .ok (.iconst 0, 1) := by decide +kernel
theorem dX11_init_297 : decode cX11_init 297 = .ok (.iastore, 1) := by decide +kernel
theorem dX11_init_298 : decode cX11_init 298 = .ok (.dup, 1) := by decide +kernel
theorem dX11_init_299 : decode cX11_init 299 = .ok (.bipush 42, 2) := by decide +kernel
theorem dX11_init_301 : decode cX11_init 301 = .ok (.bipush 105, 2) := by decide +kernel
theorem dX11_init_303 : decode cX11_init 303 = .ok (.iastore, 1) := by decide +kernel
theorem dX11_init_304 : decode cX11_init 304 = .ok (.dup, 1) := by decide +kernel
theorem dX11_init_305 : decode cX11_init 305 = .ok (.bipush 43, 2) := by decide +kernel
theorem dX11_init_307 : decode cX11_init 307 = .ok (.bipush 102, 2) := by decide +kernel
theorem dX11_init_309 : decode cX11_init 309 = .ok (.iastore, 1) := by decide +kernel
theorem dX11_init_310 : decode cX11_init 310 = .ok (.dup, 1) := by decide +kernel
theorem dX11_init_311 : decode cX11_init 311 = .ok (.bipush 44, 2) := by decide +kernel
theorem dX11_init_313 : decode cX11_init 313 = .ok (.iconst 0, 1) := by decide +kernel
theorem dX11_init_314 : decode cX11_init 314 = .ok (.iastore, 1) := by decide +kernel
theorem dX11_init_315 : decode cX11_init 315 = .ok (.dup, 1) := by decide +kernel
theorem dX11_init_316 : decode cX11_init 316 = .ok (.bipush 45, 2) := by decide +kernel
theorem dX11_init_318 : decode cX11_init 318 = .ok (.iconst 0, 1) := by decide +kernel
theorem dX11_init_319 : decode cX11_init 319 = .ok (.iastore, 1) := by decide +kernel
theorem dX11_init_320 : decode cX11_init 320 = .ok (.dup, 1) := by decide +kernel
theorem dX11_init_321 : decode cX11_init 321 = .ok (.bipush 46, 2) := by decide +kernel
theorem dX11_init_323 : decode cX11_init 323 = .ok (.iconst 0, 1) := by decide +kernel
theorem dX11_init_324 : decode cX11_init 324 = .ok (.iastore, 1) := by decide +kernel
theorem dX11_init_325 : decode cX11_init 325 = .ok (.dup, 1) := by decide +kernel
theorem dX11_init_326 : decode cX11_init 326 = .ok (.bipush 47, 2) := by decide +kernel
theorem dX11_init_328 : decode cX11_init 328 = .ok (.iconst 0, 1) := by decide +kernel
theorem dX11_init_329 : decode cX11_init 329 = .ok (.iastore, 1) := by decide +kernel
theorem dX11_init_330 : decode cX11_init 330 = .ok (.dup, 1) := by decide +kernel
theorem dX11_init_331 : decode cX11_init 331 = .ok (.bipush 48, 2) := by decide +kernel
theorem dX11_init_333 : decode cX11_init 333 = .ok (.bipush 106, 2) := by decide +kernel
theorem dX11_init_335 : decode cX11_init 335 = .ok (.iastore, 1) := by decide +kernel
theorem dX11_init_336 : decode cX11_init 336 = .ok (.dup, 1) := by decide +kernel
theorem dX11_init_337 : decode cX11_init 337 = .ok (.bipush 49, 2) := by decide +kernel
theorem dX11_init_339 : decode cX11_init 339 = .ok (.bipush 117, 2) := by decide +kernel
theorem dX11_init_341 : decode cX11_init 341 = .ok (.iastore, 1) := by decide +kernel
theorem dX11_init_342 : decode cX11_init 342 = .ok (.dup, 1) := by decide +kernel
theorem dX11_init_343 : decode cX11_init 343 = .ok (.bipush 50, 2) := by decide +kernel
theorem dX11_init_345 : decode cX11_init 345 = .ok (.bipush 109, 2) := by decide +kernel
theorem dX11_init_347 : decode cX11_init 347 = .ok (.iastore, 1) := by decide +kernel
theorem dX11_init_348 : decode cX11_init 348 = .ok (.dup, 1) := by decide +kernel
theorem dX11_init_349 : decode cX11_init 349 = .ok (.bipush 51, 2) := by decide +kernel
theorem dX11_init_351 : decode cX11_init 351 = .ok (.bipush 112, 2) := by decide +kernel
theorem dX11_init_353 : decode cX11_init 353 = .ok (.iastore, 1) := by decide +kernel
theorem dX11_init_354 : decode cX11_init 354 = .ok (.dup, 1) := by decide +kernel
theorem dX11_init_355 : decode cX11_init 355 = .ok (.bipush 52, 2) := by decide +kernel
theorem dX11_init_357 : decode cX11_init 357 = .ok (.iconst 0, 1) := by decide +kernel
theorem dX11_init_358 : decode cX11_init 358 = .ok (.iastore, 1) := by decide +kernel
theorem dX11_init_359 : decode cX11_init 359 = .ok (.dup, 1) := by decide +kernel
theorem dX11_init_360 : decode cX11_init 360 = .ok (.bipush 53, 2) := by decide +kernel
theorem dX11_init_362 : decode cX11_init 362 = .ok (.iconst 0, 1) := by decide +kernel
theorem dX11_init_363 : decode cX11_init 363 = .ok (.iastore, 1) := by decide +kernel
theorem dX11_init_364 : decode cX11_init 364 = .ok (.putfield 31, 3) := by decide +kernel
theorem dX11_init_367 : decode cX11_init 367 = .ok (.aload_n 0, 1) := by decide +kernel
theorem dX11_init_368 : decode cX11_init 368 = .ok (.iconst 3, 1) := by decide +kernel
theorem dX11_init_369 : decode cX11_init 369 = .ok (.newarray .int, 2) := by decide +kernel
theorem dX11_init_371 : decode cX11_init 371 = .ok (.putfield 34, 3) := by decide +kernel
theorem dX11_init_374 : decode cX11_init 374 = .ok (.aload_n 0, 1) := by decide +kernel
theorem dX11_init_375 : decode cX11_init 375 = .ok (.iconst 3, 1) := by decide +kernel
theorem dX11_init_376 : decode cX11_init 376 = .ok (.newarray .int, 2) := by decide +kernel
theorem dX11_init_378 : decode cX11_init 378 = .ok (.putfield 37, 3) := by decide +kernel
theorem dX11_init_381 : decode cX11_init 381 = .ok (.aload_n 0, 1) := by decide +kernel
theorem dX11_init_382 : decode cX11_init 382 = .ok (.sipush 31200, 3) := by decide +kernel
theorem dX11_init_385 : decode cX11_init 385 = .ok (.newarray .int, 2) := by decide +kernel
theorem dX11_init_387 : decode cX11_init 387 = .ok (.putfield 40, 3) := by decide +kernel
theorem dX11_init_390 : decode cX11_init 390 = .ok (.aload_n 0, 1) := by decide +kernel
theorem dX11_init_391 : decode cX11_init 391 = .ok (.sipush 600, 3) := by decide +kernel
theorem dX11_init_394 : decode cX11_init 394 = .ok (.newarray .int, 2) := by decide +kernel
theorem dX11_init_396 : decode cX11_init 396 = .ok (.putfield 43, 3) := by decide +kernel
theorem dX11_init_399 : decode cX11_init 399 = .ok (.aload_n 0, 1) := by decide +kernel
theorem dX11_init_400 : decode cX11_init 400 = .ok (.sipush 600, 3) := by decide +kernel
theorem dX11_init_403 : decode cX11_init 403 = .ok (.newarray .int, 2) := by decide +kernel
theorem dX11_init_405 : decode cX11_init 405 = .ok (.putfield 46, 3) := by decide +kernel
theorem dX11_init_408 : decode cX11_init 408 = .ok (.aload_n 0, 1) := by decide +kernel
theorem dX11_init_409 : decode cX11_init 409 = .ok (.sipush 600, 3) := by decide +kernel
theorem dX11_init_412 : decode cX11_init 412 = .ok (.newarray .int, 2) := by decide +kernel
theorem dX11_init_414 : decode cX11_init 414 = .ok (.putfield 49, 3) := by decide +kernel
theorem dX11_init_417 : decode cX11_init 417 = .ok (.aload_n 0, 1) := by decide +kernel
theorem dX11_init_418 : decode cX11_init 418 = .ok (.sipush 2048, 3) := by decide +kernel
theorem dX11_init_421 : decode cX11_init 421 = .ok (.newarray .int, 2) := by decide +kernel
theorem dX11_init_423 : decode cX11_init 423 = .ok (.putfield 52, 3) := by decide +kernel
theorem dX11_init_426 : decode cX11_init 426 = .ok (.aload_n 0, 1) := by decide +kernel
theorem dX11_init_427 : decode cX11_init 427 = .ok (.bipush 12, 2) := by decide +kernel
theorem dX11_init_429 : decode cX11_init 429 = .ok (.newarray .int, 2) := by decide +kernel
theorem dX11_init_431 : decode cX11_init 431 = .ok (.putfield 55, 3) := by decide +kernel
theorem dX11_init_434 : decode cX11_init 434 = .ok (.aload_n 0, 1) := by decide +kernel
theorem dX11_init_435 : decode cX11_init 435 = .ok (.iconst 4, 1) := by decide +kernel
theorem dX11_init_436 : decode cX11_init 436 = .ok (.newarray .int, 2) := by decide +kernel
theorem dX11_init_438 : decode cX11_init 438 = .ok (.dup, 1) := by decide +kernel
theorem dX11_init_439 : decode cX11_init 439 = .ok (.iconst 0, 1) := by decide +kernel
theorem dX11_init_440 : decode cX11_init 440 = .ok (.iconst (-1), 1) := by decide +kernel
theorem dX11_init_441 : decode cX11_init 441 = .ok (.iastore, 1) := by decide +kernel
theorem dX11_init_442 : decode cX11_init 442 = .ok (.dup, 1) := by decide +kernel
theorem dX11_init_443 : decode cX11_init 443 = .ok (.iconst 1, 1) := by decide +kernel
theorem dX11_init_444 : decode cX11_init 444 = .ok (.iconst (-1), 1) := by decide +kernel
theorem dX11_init_445 : decode cX11_init 445 = .ok (.iastore, 1) := by decide +kernel
theorem dX11_init_446 : decode cX11_init 446 = .ok (.dup, 1) := by decide +kernel
theorem dX11_init_447 : decode cX11_init 447 = .ok (.iconst 2, 1) := by decide +kernel
theorem dX11_init_448 : decode cX11_init 448 = .ok (.iconst (-1), 1) := by decide +kernel
theorem dX11_init_449 : decode cX11_init 449 = .ok (.iastore, 1) := by decide +kernel
theorem dX11_init_450 : decode cX11_init 450 = .ok (.dup, 1) := by decide +kernel
theorem dX11_init_451 : decode cX11_init 451 = .ok (.iconst 3, 1) := by decide +kernel
theorem dX11_init_452 : decode cX11_init 452 = .ok (.iconst (-1), 1) := by decide +kernel
theorem dX11_init_453 : decode cX11_init 453 = .ok (.iastore, 1) := by decide +kernel
theorem dX11_init_454 : decode cX11_init 454 = .ok (.putfield 58, 3) := by decide +kernel
theorem dX11_init_457 : decode cX11_init 457 = .ok (.aload_n 0, 1) := by decide +kernel
theorem dX11_init_458 : decode cX11_init 458 = .ok (.sipush 160, 3) := by decide +kernel
theorem dX11_init_461 : decode cX11_init 461 = .ok (.newarray .int, 2) := by decide +kernel
theorem dX11_init_463 : decode cX11_init 463 = .ok (.putfield 61, 3) := by decide +kernel
theorem dX11_init_466 : decode cX11_init 466 = .ok (.aload_n 0, 1) := by decide +kernel
theorem dX11_init_467 : decode cX11_init 467 = .ok (.getfield 9, 3) := by decide +kernel
theorem dX11_init_470 : decode cX11_init 470 = .ok (.bipush 56, 2) := by decide +kernel
theorem dX11_init_472 : decode cX11_init 472 = .ok (.bipush (-5), 2) := by decide +kernel
theorem dX11_init_474 : decode cX11_init 474 = .ok (.iastore, 1) := by decide +kernel
theorem dX11_init_475 : decode cX11_init 475 = .ok (.return_, 1) := by decide +kernel
theorem dX11_isCell_0 : decode cX11_isCell 0 = .ok (.iload_n 0, 1) := by decide +kernel
theorem dX11_isCell_1 : decode cX11_isCell 1 = .ok (.i2l, 1) := by decide +kernel
theorem dX11_isCell_2 : decode cX11_isCell 2 = .ok (.lconst 0, 1) := by decide +kernel
theorem dX11_isCell_3 : decode cX11_isCell 3 = .ok (.ldc2_w 70, 3) := by decide +kernel
theorem dX11_isCell_6 : decode cX11_isCell 6 = .ok (.invokestatic 64, 3) := by decide +kernel
theorem dX11_isCell_9 : decode cX11_isCell 9 = .ok (.ireturn, 1) := by decide +kernel
theorem dX11_isLike_0 : decode cX11_isLike 0 = .ok (.iconst 1, 1) := by decide +kernel
theorem dX11_isLike_1 : decode cX11_isLike 1 = .ok (.istore_n 2, 1) := by decide +kernel
theorem dX11_isLike_2 : decode cX11_isLike 2 = .ok (.iconst 0, 1) := by decide +kernel
theorem dX11_isLike_3 : decode cX11_isLike 3 = .ok (.istore_n 3, 1) := by decide +kernel
theorem dX11_isLike_4 : decode cX11_isLike 4 = .ok (.iload_n 3, 1) := by decide +kernel
theorem dX11_isLike_5 : decode cX11_isLike 5 = .ok (.bipush 52, 2) := by decide +kernel
theorem dX11_isLike_7 : decode cX11_isLike 7 = .ok (.if_icmp .ge 39, 3) := by decide +kernel
theorem dX11_isLike_10 : decode cX11_isLike 10 = .ok (.iload_n 2, 1) := by decide +kernel
theorem dX11_isLike_11 : decode cX11_isLike 11 = .ok (.ifCond .eq 35, 3) := by decide +kernel
theorem dX11_isLike_14 : decode cX11_isLike 14 = .ok (.aload_n 0, 1) := by decide +kernel
theorem dX11_isLike_15 : decode cX11_isLike 15 = .ok (.getfield 40, 3) := by decide +kernel
theorem dX11_isLike_18 : decode cX11_isLike 18 = .ok (.bipush 52, 2) := by decide +kernel
theorem dX11_isLike_20 : decode cX11_isLike 20 = .ok (.iload_n 1, 1) := by decide +kernel
theorem dX11_isLike_21 : decode cX11_isLike 21 = .ok (.imul, 1) := by decide +kernel
theorem dX11_isLike_22 : decode cX11_isLike 22 = .ok (.iload_n 3, 1) := by decide +kernel
theorem dX11_isLike_23 : decode cX11_isLike 23 = .ok (.iadd, 1) := by decide +kernel
theorem dX11_isLike_24 : decode cX11_isLike 24 = .ok (.iaload, 1) := by decide +kernel
theorem dX11_isLike_25 : decode cX11_isLike 25 = .ok (.aload_n 0, 1) := by decide +kernel
theorem dX11_isLike_26 : decode cX11_isLike 26 = .ok (.getfield 16, 3) := by decide +kernel
theorem dX11_isLike_29 : decode cX11_isLike 29 = .ok (.iload_n 3, 1) := by decide +kernel
theorem dX11_isLike_30 : decode cX11_isLike 30 = .ok (.iaload, 1) := by decide +kernel
theorem dX11_isLike_31 : decode cX11_isLike 31 = .ok (.if_icmp .ne 7, 3) := by decide +kernel
theorem dX11_isLike_34 : decode cX11_isLike 34 = .ok (.iconst 1, 1) := by decide +kernel
theorem dX11_isLike_35 : decode cX11_isLike 35 = .ok (.goto 4, 3) := by decide +kernel
theorem dX11_isLike_38 : decode cX11_isLike 38 = .ok (.iconst 0, 1) := by decide +kernel
theorem dX11_isLike_39 : decode cX11_isLike 39 = .ok (.istore_n 2, 1) := by decide +kernel
theorem dX11_isLike_40 : decode cX11_isLike 40 = .ok (.iinc 3 1, 3) := by decide +kernel
theorem dX11_isLike_43 : decode cX11_isLike 43 = .ok (.goto (-39), 3) := by decide +kernel
theorem dX11_isLike_46 : decode cX11_isLike 46 = .ok (.iload_n 2, 1) := by decide +kernel
theorem dX11_isLike_47 : decode cX11_isLike 47 = .ok (.ireturn, 1) := by decide +kernel
theorem dX11_isList_0 : decode cX11_isList 0 = .ok (.iload_n 0, 1) := by decide +kernel
theorem dX11_isList_1 : decode cX11_isList 1 = .ok (.i2l, 1) := by decide +kernel
theorem dX11_isList_2 : decode cX11_isList 2 = .ok (.lconst 0, 1) := by decide +kernel
theorem dX11_isList_3 : decode cX11_isList 3 = .ok (.ldc2_w 70, 3) := by decide +kernel
theorem dX11_isList_6 : decode cX11_isList 6 = .ok (.invokestatic 64, 3) := by decide +kernel
theorem dX11_isList_9 : decode cX11_isList 9 = .ok (.ireturn, 1) := by decide +kernel
theorem dX11_isMonitor_0 : decode cX11_isMonitor 0 = .ok (.iload_n 0, 1) := by decide +kernel
theorem dX11_isMonitor_1 : decode cX11_isMonitor 1 = .ok (.i2l, 1) := by decide +kernel
theorem dX11_isMonitor_2 : decode cX11_isMonitor 2 = .ok (.lconst 0, 1) := by decide +kernel
theorem dX11_isMonitor_3 : decode cX11_isMonitor 3 = .ok (.ldc2_w 68, 3) := by decide +kernel
theorem dX11_isMonitor_6 : decode cX11_isMonitor 6 = .ok (.invokestatic 64, 3) := by decide +kernel
theorem dX11_isMonitor_9 : decode cX11_isMonitor 9 = .ok (.ireturn, 1) := by decide +kernel
theorem dX11_isNested_0 : decode cX11_isNested 0 = .ok (.iconst 0, 1) := by decide +kernel
theorem dX11_isNested_1 : decode cX11_isNested 1 = .ok (.istore_n 1, 1) := by decide +kernel
theorem dX11_isNested_2 : decode cX11_isNested 2 = .ok (.iconst 0, 1) := by decide +kernel
theorem dX11_isNested_3 : decode cX11_isNested 3 = .ok (.istore_n 2, 1) := by decide +kernel
theorem dX11_isNested_4 : decode cX11_isNested 4 = .ok (.iload_n 2, 1) := by decide +kernel
theorem dX11_isNested_5 : decode cX11_isNested 5 = .ok (.aload_n 0, 1) := by decide +kernel
theorem dX11_isNested_6 : decode cX11_isNested 6 = .ok (.getfield 231, 3) := by decide +kernel
theorem dX11_isNested_9 : decode cX11_isNested 9 = .ok (.if_icmp .ge 50, 3) := by decide +kernel
theorem dX11_isNested_12 : decode cX11_isNested 12 = .ok (.iconst 0, 1) := by decide +kernel
theorem dX11_isNested_13 : decode cX11_isNested 13 = .ok (.istore_n 3, 1) := by decide +kernel
theorem dX11_isNested_14 : decode cX11_isNested 14 = .ok (.iload_n 3, 1) := by decide +kernel
theorem dX11_isNested_15 : decode cX11_isNested 15 = .ok (.iconst 3, 1) := by decide +kernel
theorem dX11_isNested_16 : decode cX11_isNested 16 = .ok (.if_icmp .ge 37, 3) := by decide +kernel
theorem dX11_isNested_19 : decode cX11_isNested 19 = .ok (.iload_n 1, 1) := by decide +kernel
theorem dX11_isNested_20 : decode cX11_isNested 20 = .ok (.ifCond .ne 21, 3) := by decide +kernel
theorem dX11_isNested_23 : decode cX11_isNested 23 = .ok (.aload_n 0, 1) := by decide +kernel
theorem dX11_isNested_24 : decode cX11_isNested 24 = .ok (.getfield 40, 3) := by decide +kernel
theorem dX11_isNested_27 : decode cX11_isNested 27 = .ok (.bipush 52, 2) := by decide +kernel
theorem dX11_isNested_29 : decode cX11_isNested 29 = .ok (.iload_n 2, 1) := by decide +kernel
theorem dX11_isNested_30 : decode cX11_isNested 30 = .ok (.imul, 1) := by decide +kernel
theorem dX11_isNested_31 : decode cX11_isNested 31 = .ok (.bipush 15, 2) := by decide +kernel
theorem dX11_isNested_33 : decode cX11_isNested 33 = .ok (.iadd, 1) := by decide +kernel
theorem dX11_isNested_34 : decode cX11_isNested 34 = .ok (.iload_n 3, 1) := by decide +kernel
theorem dX11_isNested_35 : decode cX11_isNested 35 = .ok (.iadd, 1) := by decide +kernel
theorem dX11_isNested_36 : decode cX11_isNested 36 = .ok (.iaload, 1) := by decide +kernel
theorem dX11_isNested_37 : decode cX11_isNested 37 = .ok (.iconst 1, 1) := by decide +kernel
theorem dX11_isNested_38 : decode cX11_isNested 38 = .ok (.if_icmp .le 7, 3) := by decide +kernel
theorem dX11_isNested_41 : decode cX11_isNested 41 = .ok (.iconst 1, 1) := by decide +kernel
theorem dX11_isNested_42 : decode cX11_isNested 42 = .ok (.goto 4, 3) := by decide +kernel
theorem dX11_isNested_45 : decode cX11_isNested 45 = .ok (.iconst 0, 1) := by decide +kernel
theorem dX11_isNested_46 : decode cX11_isNested 46 = .ok (.istore_n 1, 1) := by decide +kernel
theorem dX11_isNested_47 : decode cX11_isNested 47 = .ok (.iinc 3 1, 3) := by decide +kernel
theorem dX11_isNested_50 : decode cX11_isNested 50 = .ok (.goto (-36), 3) := by decide +kernel
theorem dX11_isNested_53 : decode cX11_isNested 53 = .ok (.iinc 2 1, 3) := by decide +kernel
theorem dX11_isNested_56 : decode cX11_isNested 56 = .ok (.goto (-52), 3) := by decide +kernel
theorem dX11_isNested_59 : decode cX11_isNested 59 = .ok (.iload_n 1, 1) := by decide +kernel
theorem dX11_isNested_60 : decode cX11_isNested 60 = .ok (.ireturn, 1) := by decide +kernel
theorem dX11_isOutcome_0 : decode cX11_isOutcome 0 = .ok (.aload_n 0, 1) := by decide +kernel
theorem dX11_isOutcome_1 : decode cX11_isOutcome 1 = .ok (.aload_n 0, 1) := by decide +kernel
theorem dX11_isOutcome_2 : decode cX11_isOutcome 2 = .ok (.getfield 40, 3) := by decide +kernel
theorem dX11_isOutcome_5 : decode cX11_isOutcome 5 = .ok (.bipush 52, 2) := by decide +kernel
theorem dX11_isOutcome_7 : decode cX11_isOutcome 7 = .ok (.iload_n 1, 1) := by decide +kernel
theorem dX11_isOutcome_8 : decode cX11_isOutcome 8 = .ok (.imul, 1) := by decide +kernel
theorem dX11_isOutcome_9 : decode cX11_isOutcome 9 = .ok (.invokevirtual 225, 3) := by decide +kernel
theorem dX11_isOutcome_12 : decode cX11_isOutcome 12 = .ok (.istore_n 2, 1) := by decide +kernel
theorem dX11_isOutcome_13 : decode cX11_isOutcome 13 = .ok (.iconst 0, 1) := by decide +kernel
theorem dX11_isOutcome_14 : decode cX11_isOutcome 14 = .ok (.istore_n 3, 1) := by decide +kernel
theorem dX11_isOutcome_15 : decode cX11_isOutcome 15 = .ok (.iload_n 3, 1) := by decide +kernel
theorem dX11_isOutcome_16 : decode cX11_isOutcome 16 = .ok (.iload_n 1, 1) := by decide +kernel
theorem dX11_isOutcome_17 : decode cX11_isOutcome 17 = .ok (.if_icmp .ge 43, 3) := by decide +kernel
theorem dX11_isOutcome_20 : decode cX11_isOutcome 20 = .ok (.iload_n 2, 1) := by decide +kernel
theorem dX11_isOutcome_21 : decode cX11_isOutcome 21 = .ok (.ifCond .eq 39, 3) := by decide +kernel
theorem dX11_isOutcome_24 : decode cX11_isOutcome 24 = .ok (.aload_n 0, 1) := by decide +kernel
theorem dX11_isOutcome_25 : decode cX11_isOutcome 25 = .ok (.aload_n 0, 1) := by decide +kernel
theorem dX11_isOutcome_26 : decode cX11_isOutcome 26 = .ok (.getfield 40, 3) := by decide +kernel
theorem dX11_isOutcome_29 : decode cX11_isOutcome 29 = .ok (.bipush 52, 2) := by decide +kernel
theorem dX11_isOutcome_31 : decode cX11_isOutcome 31 = .ok (.iload_n 3, 1) := by decide +kernel
theorem dX11_isOutcome_32 : decode cX11_isOutcome 32 = .ok (.imul, 1) := by decide +kernel
theorem dX11_isOutcome_33 : decode cX11_isOutcome 33 = .ok (.invokevirtual 225, 3) := by decide +kernel
theorem dX11_isOutcome_36 : decode cX11_isOutcome 36 = .ok (.ifCond .eq 12, 3) := by decide +kernel
theorem dX11_isOutcome_39 : decode cX11_isOutcome 39 = .ok (.aload_n 0, 1) := by decide +kernel
theorem dX11_isOutcome_40 : decode cX11_isOutcome 40 = .ok (.iload_n 1, 1) := by decide +kernel
theorem dX11_isOutcome_41 : decode cX11_isOutcome 41 = .ok (.iload_n 3, 1) := by decide +kernel
theorem dX11_isOutcome_42 : decode cX11_isOutcome 42 = .ok (.invokevirtual 244, 3) := by decide +kernel
theorem dX11_isOutcome_45 : decode cX11_isOutcome 45 = .ok (.ifCond .ne 7, 3) := by decide +kernel
theorem dX11_isOutcome_48 : decode cX11_isOutcome 48 = .ok (.iconst 1, 1) := by decide +kernel
theorem dX11_isOutcome_49 : decode cX11_isOutcome 49 = .ok (.goto 4, 3) := by decide +kernel
theorem dX11_isOutcome_52 : decode cX11_isOutcome 52 = .ok (.iconst 0, 1) := by decide +kernel
theorem dX11_isOutcome_53 : decode cX11_isOutcome 53 = .ok (.istore_n 2, 1) := by decide +kernel
theorem dX11_isOutcome_54 : decode cX11_isOutcome 54 = .ok (.iinc 3 1, 3) := by decide +kernel
theorem dX11_isOutcome_57 : decode cX11_isOutcome 57 = .ok (.goto (-42), 3) := by decide +kernel
theorem dX11_isOutcome_60 : decode cX11_isOutcome 60 = .ok (.iload_n 2, 1) := by decide +kernel
theorem dX11_isOutcome_61 : decode cX11_isOutcome 61 = .ok (.ireturn, 1) := by decide +kernel
theorem dX11_isOver_0 : decode cX11_isOver 0 = .ok (.aload_n 0, 1) := by decide +kernel
theorem dX11_isOver_1 : decode cX11_isOver 1 = .ok (.getfield 9, 3) := by decide +kernel
theorem dX11_isOver_4 : decode cX11_isOver 4 = .ok (.bipush 52, 2) := by decide +kernel
theorem dX11_isOver_6 : decode cX11_isOver 6 = .ok (.iaload, 1) := by decide +kernel
theorem dX11_isOver_7 : decode cX11_isOver 7 = .ok (.ifCond .le 36, 3) := by decide +kernel
theorem dX11_isOver_10 : decode cX11_isOver 10 = .ok (.aload_n 0, 1) := by decide +kernel
theorem dX11_isOver_11 : decode cX11_isOver 11 = .ok (.aload_n 1, 1) := by decide +kernel
theorem dX11_isOver_12 : decode cX11_isOver 12 = .ok (.iload_n 2, 1) := by decide +kernel
theorem dX11_isOver_13 : decode cX11_isOver 13 = .ok (.iconst 3, 1) := by decide +kernel
theorem dX11_isOver_14 : decode cX11_isOver 14 = .ok (.invokevirtual 215, 3) := by decide +kernel
theorem dX11_isOver_17 : decode cX11_isOver 17 = .ok (.aload_n 0, 1) := by decide +kernel
theorem dX11_isOver_18 : decode cX11_isOver 18 = .ok (.aload_n 1, 1) := by decide +kernel
theorem dX11_isOver_19 : decode cX11_isOver 19 = .ok (.iload_n 2, 1) := by decide +kernel
theorem dX11_isOver_20 : decode cX11_isOver 20 = .ok (.iconst 4, 1) := by decide +kernel
theorem dX11_isOver_21 : decode cX11_isOver 21 = .ok (.invokevirtual 215, 3) := by decide +kernel
theorem dX11_isOver_24 : decode cX11_isOver 24 = .ok (.ior, 1) := by decide +kernel
theorem dX11_isOver_25 : decode cX11_isOver 25 = .ok (.iconst 1, 1) := by decide +kernel
theorem dX11_isOver_26 : decode cX11_isOver 26 = .ok (.aload_n 0, 1) := by decide +kernel
theorem dX11_isOver_27 : decode cX11_isOver 27 = .ok (.getfield 9, 3) := by decide +kernel
theorem dX11_isOver_30 : decode cX11_isOver 30 = .ok (.bipush 52, 2) := by decide +kernel
theorem dX11_isOver_32 : decode cX11_isOver 32 = .ok (.iaload, 1) := by decide +kernel
theorem dX11_isOver_33 : decode cX11_isOver 33 = .ok (.ishl, 1) := by decide +kernel
theorem dX11_isOver_34 : decode cX11_isOver 34 = .ok (.iconst 1, 1) := by decide +kernel
theorem dX11_isOver_35 : decode cX11_isOver 35 = .ok (.isub, 1) := by decide +kernel
theorem dX11_isOver_36 : decode cX11_isOver 36 = .ok (.if_icmp .ne 7, 3) := by decide +kernel
theorem dX11_isOver_39 : decode cX11_isOver 39 = .ok (.iconst 1, 1) := by decide +kernel
theorem dX11_isOver_40 : decode cX11_isOver 40 = .ok (.goto 4, 3) := by decide +kernel
theorem dX11_isOver_43 : decode cX11_isOver 43 = .ok (.iconst 0, 1) := by decide +kernel
theorem dX11_isOver_44 : decode cX11_isOver 44 = .ok (.ireturn, 1) := by decide +kernel
theorem dX11_isOwner_0 : decode cX11_isOwner 0 = .ok (.aload_n 0, 1) := by decide +kernel
theorem dX11_isOwner_1 : decode cX11_isOwner 1 = .ok (.getfield 16, 3) := by decide +kernel
theorem dX11_isOwner_4 : decode cX11_isOwner 4 = .ok (.bipush 12, 2) := by decide +kernel
theorem dX11_isOwner_6 : decode cX11_isOwner 6 = .ok (.iload_n 2, 1) := by decide +kernel
theorem dX11_isOwner_7 : decode cX11_isOwner 7 = .ok (.iadd, 1) := by decide +kernel
theorem dX11_isOwner_8 : decode cX11_isOwner 8 = .ok (.iaload, 1) := by decide +kernel
theorem dX11_isOwner_9 : decode cX11_isOwner 9 = .ok (.iload_n 1, 1) := by decide +kernel
theorem dX11_isOwner_10 : decode cX11_isOwner 10 = .ok (.iconst 1, 1) := by decide +kernel
theorem dX11_isOwner_11 : decode cX11_isOwner 11 = .ok (.iadd, 1) := by decide +kernel
theorem dX11_isOwner_12 : decode cX11_isOwner 12 = .ok (.if_icmp .ne 7, 3) := by decide +kernel
theorem dX11_isOwner_15 : decode cX11_isOwner 15 = .ok (.iconst 1, 1) := by decide +kernel
theorem dX11_isOwner_16 : decode cX11_isOwner 16 = .ok (.goto 4, 3) := by decide +kernel
theorem dX11_isOwner_19 : decode cX11_isOwner 19 = .ok (.iconst 0, 1) := by decide +kernel
theorem dX11_isOwner_20 : decode cX11_isOwner 20 = .ok (.ireturn, 1) := by decide +kernel
theorem dX11_isReady_0 : decode cX11_isReady 0 = .ok (.aload_n 0, 1) := by decide +kernel
theorem dX11_isReady_1 : decode cX11_isReady 1 = .ok (.iload_n 1, 1) := by decide +kernel
theorem dX11_isReady_2 : decode cX11_isReady 2 = .ok (.invokevirtual 133, 3) := by decide +kernel
theorem dX11_isReady_5 : decode cX11_isReady 5 = .ok (.ifCond .eq 18, 3) := by decide +kernel
theorem dX11_isReady_8 : decode cX11_isReady 8 = .ok (.aload_n 0, 1) := by decide +kernel
theorem dX11_isReady_9 : decode cX11_isReady 9 = .ok (.getfield 9, 3) := by decide +kernel
theorem dX11_isReady_12 : decode cX11_isReady 12 = .ok (.iconst 4, 1) := by decide +kernel
theorem dX11_isReady_13 : decode cX11_isReady 13 = .ok (.iload_n 1, 1) := by decide +kernel
theorem dX11_isReady_14 : decode cX11_isReady 14 = .ok (.iadd, 1) := by decide +kernel
theorem dX11_isReady_15 : decode cX11_isReady 15 = .ok (.iaload, 1) := by decide +kernel
theorem dX11_isReady_16 : decode cX11_isReady 16 = .ok (.ifCond .ne 7, 3) := by decide +kernel
theorem dX11_isReady_19 : decode cX11_isReady 19 = .ok (.iconst 1, 1) := by decide +kernel
theorem dX11_isReady_20 : decode cX11_isReady 20 = .ok (.goto 4, 3) := by decide +kernel
theorem dX11_isReady_23 : decode cX11_isReady 23 = .ok (.iconst 0, 1) := by decide +kernel
theorem dX11_isReady_24 : decode cX11_isReady 24 = .ok (.ireturn, 1) := by decide +kernel
theorem dX11_isTask_0 : decode cX11_isTask 0 = .ok (.iload_n 1, 1) := by decide +kernel
theorem dX11_isTask_1 : decode cX11_isTask 1 = .ok (.i2l, 1) := by decide +kernel
theorem dX11_isTask_2 : decode cX11_isTask 2 = .ok (.lconst 0, 1) := by decide +kernel
theorem dX11_isTask_3 : decode cX11_isTask 3 = .ok (.aload_n 0, 1) := by decide +kernel
theorem dX11_isTask_4 : decode cX11_isTask 4 = .ok (.getfield 9, 3) := by decide +kernel
theorem dX11_isTask_7 : decode cX11_isTask 7 = .ok (.bipush 52, 2) := by decide +kernel
theorem dX11_isTask_9 : decode cX11_isTask 9 = .ok (.iaload, 1) := by decide +kernel
theorem dX11_isTask_10 : decode cX11_isTask 10 = .ok (.iconst 1, 1) := by decide +kernel
theorem dX11_isTask_11 : decode cX11_isTask 11 = .ok (.isub, 1) := by decide +kernel
theorem dX11_isTask_12 : decode cX11_isTask 12 = .ok (.i2l, 1) := by decide +kernel
theorem dX11_isTask_13 : decode cX11_isTask 13 = .ok (.invokestatic 64, 3) := by decide +kernel
theorem dX11_isTask_16 : decode cX11_isTask 16 = .ok (.ireturn, 1) := by decide +kernel
theorem dX11_isWord_0 : decode cX11_isWord 0 = .ok (.aload_n 0, 1) := by decide +kernel
theorem dX11_isWord_1 : decode cX11_isWord 1 = .ok (.getfield 89, 3) := by decide +kernel
theorem dX11_isWord_4 : decode cX11_isWord 4 = .ok (.iload_n 2, 1) := by decide +kernel
theorem dX11_isWord_5 : decode cX11_isWord 5 = .ok (.isub, 1) := by decide +kernel
theorem dX11_isWord_6 : decode cX11_isWord 6 = .ok (.bipush 6, 2) := by decide +kernel
theorem dX11_isWord_8 : decode cX11_isWord 8 = .ok (.if_icmp .gt 7, 3) := by decide +kernel
theorem dX11_isWord_11 : decode cX11_isWord 11 = .ok (.iconst 1, 1) := by decide +kernel
theorem dX11_isWord_12 : decode cX11_isWord 12 = .ok (.goto 4, 3) := by decide +kernel
theorem dX11_isWord_15 : decode cX11_isWord 15 = .ok (.iconst 0, 1) := by decide +kernel
theorem dX11_isWord_16 : decode cX11_isWord 16 = .ok (.istore_n 3, 1) := by decide +kernel
theorem dX11_isWord_17 : decode cX11_isWord 17 = .ok (.iconst 0, 1) := by decide +kernel
theorem dX11_isWord_18 : decode cX11_isWord 18 = .ok (.istore 4, 2) := by decide +kernel
theorem dX11_isWord_20 : decode cX11_isWord 20 = .ok (.iload 4, 2) := by decide +kernel
theorem dX11_isWord_22 : decode cX11_isWord 22 = .ok (.bipush 6, 2) := by decide +kernel
theorem dX11_isWord_24 : decode cX11_isWord 24 = .ok (.if_icmp .ge 58, 3) := by decide +kernel
theorem dX11_isWord_27 : decode cX11_isWord 27 = .ok (.iload_n 3, 1) := by decide +kernel
theorem dX11_isWord_28 : decode cX11_isWord 28 = .ok (.ifCond .eq 54, 3) := by decide +kernel
theorem dX11_isWord_31 : decode cX11_isWord 31 = .ok (.aload_n 0, 1) := by decide +kernel
theorem dX11_isWord_32 : decode cX11_isWord 32 = .ok (.getfield 31, 3) := by decide +kernel
theorem dX11_isWord_35 : decode cX11_isWord 35 = .ok (.bipush 6, 2) := by decide +kernel
theorem dX11_isWord_37 : decode cX11_isWord 37 = .ok (.iload_n 1, 1) := by decide +kernel
theorem dX11_isWord_38 : decode cX11_isWord 38 = .ok (.imul, 1) := by decide +kernel
theorem dX11_isWord_39 : decode cX11_isWord 39 = .ok (.iload 4, 2) := by decide +kernel
theorem dX11_isWord_41 : decode cX11_isWord 41 = .ok (.iadd, 1) := by decide +kernel
theorem dX11_isWord_42 : decode cX11_isWord 42 = .ok (.iaload, 1) := by decide +kernel
theorem dX11_isWord_43 : decode cX11_isWord 43 = .ok (.iload_n 2, 1) := by decide +kernel
theorem dX11_isWord_44 : decode cX11_isWord 44 = .ok (.iload 4, 2) := by decide +kernel
theorem dX11_isWord_46 : decode cX11_isWord 46 = .ok (.iadd, 1) := by decide +kernel
theorem dX11_isWord_47 : decode cX11_isWord 47 = .ok (.aload_n 0, 1) := by decide +kernel
theorem dX11_isWord_48 : decode cX11_isWord 48 = .ok (.getfield 89, 3) := by decide +kernel
theorem dX11_isWord_51 : decode cX11_isWord 51 = .ok (.if_icmp .ge 15, 3) := by decide +kernel
theorem dX11_isWord_54 : decode cX11_isWord 54 = .ok (.aload_n 0, 1) := by decide +kernel
theorem dX11_isWord_55 : decode cX11_isWord 55 = .ok (.getfield 25, 3) := by decide +kernel
theorem dX11_isWord_58 : decode cX11_isWord 58 = .ok (.iload_n 2, 1) := by decide +kernel
theorem dX11_isWord_59 : decode cX11_isWord 59 = .ok (.iload 4, 2) := by decide +kernel
theorem dX11_isWord_61 : decode cX11_isWord 61 = .ok (.iadd, 1) := by decide +kernel
theorem dX11_isWord_62 : decode cX11_isWord 62 = .ok (.iaload, 1) := by decide +kernel
theorem dX11_isWord_63 : decode cX11_isWord 63 = .ok (.goto 4, 3) := by decide +kernel
theorem dX11_isWord_66 : decode cX11_isWord 66 = .ok (.iconst 0, 1) := by decide +kernel
theorem dX11_isWord_67 : decode cX11_isWord 67 = .ok (.if_icmp .ne 7, 3) := by decide +kernel
theorem dX11_isWord_70 : decode cX11_isWord 70 = .ok (.iconst 1, 1) := by decide +kernel
theorem dX11_isWord_71 : decode cX11_isWord 71 = .ok (.goto 4, 3) := by decide +kernel
theorem dX11_isWord_74 : decode cX11_isWord 74 = .ok (.iconst 0, 1) := by decide +kernel
theorem dX11_isWord_75 : decode cX11_isWord 75 = .ok (.istore_n 3, 1) := by decide +kernel
theorem dX11_isWord_76 : decode cX11_isWord 76 = .ok (.iinc 4 1, 3) := by decide +kernel
theorem dX11_isWord_79 : decode cX11_isWord 79 = .ok (.goto (-59), 3) := by decide +kernel
theorem dX11_isWord_82 : decode cX11_isWord 82 = .ok (.iload_n 3, 1) := by decide +kernel
theorem dX11_isWord_83 : decode cX11_isWord 83 = .ok (.ireturn, 1) := by decide +kernel
theorem dX11_lay_0 : decode cX11_lay 0 = .ok (.iload_n 1, 1) := by decide +kernel
theorem dX11_lay_1 : decode cX11_lay 1 = .ok (.i2l, 1) := by decide +kernel
theorem dX11_lay_2 : decode cX11_lay 2 = .ok (.lconst 0, 1) := by decide +kernel
theorem dX11_lay_3 : decode cX11_lay 3 = .ok (.lconst 1, 1) := by decide +kernel
theorem dX11_lay_4 : decode cX11_lay 4 = .ok (.invokestatic 64, 3) := by decide +kernel
theorem dX11_lay_7 : decode cX11_lay 7 = .ok (.ifCond .eq 10, 3) := by decide +kernel
theorem dX11_lay_10 : decode cX11_lay 10 = .ok (.iload_n 2, 1) := by decide +kernel
theorem dX11_lay_11 : decode cX11_lay 11 = .ok (.invokestatic 203, 3) := by decide +kernel
theorem dX11_lay_14 : decode cX11_lay 14 = .ok (.ifCond .ne 5, 3) := by decide +kernel
theorem dX11_lay_17 : decode cX11_lay 17 = .ok (.iconst (-1), 1) := by decide +kernel
theorem dX11_lay_18 : decode cX11_lay 18 = .ok (.ireturn, 1) := by decide +kernel
theorem dX11_lay_19 : decode cX11_lay 19 = .ok (.aload_n 0, 1) := by decide +kernel
theorem dX11_lay_20 : decode cX11_lay 20 = .ok (.getfield 58, 3) := by decide +kernel
theorem dX11_lay_23 : decode cX11_lay 23 = .ok (.iload_n 2, 1) := by decide +kernel
theorem dX11_lay_24 : decode cX11_lay 24 = .ok (.iaload, 1) := by decide +kernel
theorem dX11_lay_25 : decode cX11_lay 25 = .ok (.ifCond .ge 6, 3) := by decide +kernel
theorem dX11_lay_28 : decode cX11_lay 28 = .ok (.bipush (-11), 2) := by decide +kernel
theorem dX11_lay_30 : decode cX11_lay 30 = .ok (.ireturn, 1) := by decide +kernel
theorem dX11_lay_31 : decode cX11_lay 31 = .ok (.aload_n 0, 1) := by decide +kernel
theorem dX11_lay_32 : decode cX11_lay 32 = .ok (.iload_n 1, 1) := by decide +kernel
theorem dX11_lay_33 : decode cX11_lay 33 = .ok (.invokevirtual 275, 3) := by decide +kernel
theorem dX11_lay_36 : decode cX11_lay 36 = .ok (.istore 4, 2) := by decide +kernel
theorem dX11_lay_38 : decode cX11_lay 38 = .ok (.iload 4, 2) := by decide +kernel
theorem dX11_lay_40 : decode cX11_lay 40 = .ok (.ifCond .ge 6, 3) := by decide +kernel
theorem dX11_lay_43 : decode cX11_lay 43 = .ok (.bipush (-5), 2) := by decide +kernel
theorem dX11_lay_45 : decode cX11_lay 45 = .ok (.ireturn, 1) := by decide +kernel
theorem dX11_lay_46 : decode cX11_lay 46 = .ok (.iconst 0, 1) := by decide +kernel
theorem dX11_lay_47 : decode cX11_lay 47 = .ok (.istore 5, 2) := by decide +kernel
theorem dX11_lay_49 : decode cX11_lay 49 = .ok (.iload 5, 2) := by decide +kernel
theorem dX11_lay_51 : decode cX11_lay 51 = .ok (.aload_n 0, 1) := by decide +kernel
theorem dX11_lay_52 : decode cX11_lay 52 = .ok (.getfield 49, 3) := by decide +kernel
theorem dX11_lay_55 : decode cX11_lay 55 = .ok (.iload 4, 2) := by decide +kernel
theorem dX11_lay_57 : decode cX11_lay 57 = .ok (.iaload, 1) := by decide +kernel
theorem dX11_lay_58 : decode cX11_lay 58 = .ok (.if_icmp .ge 55, 3) := by decide +kernel
theorem dX11_lay_61 : decode cX11_lay 61 = .ok (.iload_n 3, 1) := by decide +kernel
theorem dX11_lay_62 : decode cX11_lay 62 = .ok (.ifCond .lt 20, 3) := by decide +kernel
theorem dX11_lay_65 : decode cX11_lay 65 = .ok (.iload_n 3, 1) := by decide +kernel
theorem dX11_lay_66 : decode cX11_lay 66 = .ok (.i2l, 1) := by decide +kernel
theorem dX11_lay_67 : decode cX11_lay 67 = .ok (.iload 5, 2) := by decide +kernel
theorem dX11_lay_69 : decode cX11_lay 69 = .ok (.i2l, 1) := by decide +kernel
theorem dX11_lay_70 : decode cX11_lay 70 = .ok (.ladd, 1) := by decide +kernel
theorem dX11_lay_71 : decode cX11_lay 71 = .ok (.aload_n 0, 1) := by decide +kernel
theorem dX11_lay_72 : decode cX11_lay 72 = .ok (.getfield 58, 3) := by decide +kernel
theorem dX11_lay_75 : decode cX11_lay 75 = .ok (.iload_n 2, 1) := by decide +kernel
theorem dX11_lay_76 : decode cX11_lay 76 = .ok (.iaload, 1) := by decide +kernel
theorem dX11_lay_77 : decode cX11_lay 77 = .ok (.i2l, 1) := by decide +kernel
theorem dX11_lay_78 : decode cX11_lay 78 = .ok (.lcmp, 1) := by decide +kernel
theorem dX11_lay_79 : decode cX11_lay 79 = .ok (.ifCond .lt 6, 3) := by decide +kernel
theorem dX11_lay_82 : decode cX11_lay 82 = .ok (.bipush (-13), 2) := by decide +kernel
theorem dX11_lay_84 : decode cX11_lay 84 = .ok (.ireturn, 1) := by decide +kernel
theorem dX11_lay_85 : decode cX11_lay 85 = .ok (.aload_n 0, 1) := by decide +kernel
theorem dX11_lay_86 : decode cX11_lay 86 = .ok (.getfield 61, 3) := by decide +kernel
theorem dX11_lay_89 : decode cX11_lay 89 = .ok (.bipush 40, 2) := by decide +kernel
theorem dX11_lay_91 : decode cX11_lay 91 = .ok (.iload_n 2, 1) := by decide +kernel
theorem dX11_lay_92 : decode cX11_lay 92 = .ok (.imul, 1) := by decide +kernel
theorem dX11_lay_93 : decode cX11_lay 93 = .ok (.iload_n 3, 1) := by decide +kernel
theorem dX11_lay_94 : decode cX11_lay 94 = .ok (.iadd, 1) := by decide +kernel
theorem dX11_lay_95 : decode cX11_lay 95 = .ok (.iload 5, 2) := by decide +kernel
theorem dX11_lay_97 : decode cX11_lay 97 = .ok (.iadd, 1) := by decide +kernel
theorem dX11_lay_98 : decode cX11_lay 98 = .ok (.aload_n 0, 1) := by decide +kernel
theorem dX11_lay_99 : decode cX11_lay 99 = .ok (.iload 4, 2) := by decide +kernel
theorem dX11_lay_101 : decode cX11_lay 101 = .ok (.iload 5, 2) := by decide +kernel
theorem dX11_lay_103 : decode cX11_lay 103 = .ok (.invokevirtual 278, 3) := by decide +kernel
theorem dX11_lay_106 : decode cX11_lay 106 = .ok (.iastore, 1) := by decide +kernel
theorem dX11_lay_107 : decode cX11_lay 107 = .ok (.iinc 5 1, 3) := by decide +kernel
theorem dX11_lay_110 : decode cX11_lay 110 = .ok (.goto (-61), 3) := by decide +kernel
theorem dX11_lay_113 : decode cX11_lay 113 = .ok (.aload_n 0, 1) := by decide +kernel
theorem dX11_lay_114 : decode cX11_lay 114 = .ok (.getfield 49, 3) := by decide +kernel
theorem dX11_lay_117 : decode cX11_lay 117 = .ok (.iload 4, 2) := by decide +kernel
theorem dX11_lay_119 : decode cX11_lay 119 = .ok (.iaload, 1) := by decide +kernel
theorem dX11_lay_120 : decode cX11_lay 120 = .ok (.ireturn, 1) := by decide +kernel
theorem dX11_leaves_0 : decode cX11_leaves 0 = .ok (.aload_n 0, 1) := by decide +kernel
theorem dX11_leaves_1 : decode cX11_leaves 1 = .ok (.getfield 16, 3) := by decide +kernel
theorem dX11_leaves_4 : decode cX11_leaves 4 = .ok (.iload_n 2, 1) := by decide +kernel
theorem dX11_leaves_5 : decode cX11_leaves 5 = .ok (.iconst 4, 1) := by decide +kernel
theorem dX11_leaves_6 : decode cX11_leaves 6 = .ok (.iload_n 3, 1) := by decide +kernel
theorem dX11_leaves_7 : decode cX11_leaves 7 = .ok (.imul, 1) := by decide +kernel
theorem dX11_leaves_8 : decode cX11_leaves 8 = .ok (.iadd, 1) := by decide +kernel
theorem dX11_leaves_9 : decode cX11_leaves 9 = .ok (.iaload, 1) := by decide +kernel
theorem dX11_leaves_10 : decode cX11_leaves 10 = .ok (.iconst 1, 1) := by decide +kernel
theorem dX11_leaves_11 : decode cX11_leaves 11 = .ok (.isub, 1) := by decide +kernel
theorem dX11_leaves_12 : decode cX11_leaves 12 = .ok (.istore 4, 2) := by decide +kernel
theorem dX11_leaves_14 : decode cX11_leaves 14 = .ok (.aload_n 0, 1) := by decide +kernel
theorem dX11_leaves_15 : decode cX11_leaves 15 = .ok (.getfield 16, 3) := by decide +kernel
theorem dX11_leaves_18 : decode cX11_leaves 18 = .ok (.iload_n 1, 1) := by decide +kernel
theorem dX11_leaves_19 : decode cX11_leaves 19 = .ok (.iload_n 3, 1) := by decide +kernel
theorem dX11_leaves_20 : decode cX11_leaves 20 = .ok (.iadd, 1) := by decide +kernel
theorem dX11_leaves_21 : decode cX11_leaves 21 = .ok (.dup2, 1) := by decide +kernel
theorem dX11_leaves_22 : decode cX11_leaves 22 = .ok (.iaload, 1) := by decide +kernel
theorem dX11_leaves_23 : decode cX11_leaves 23 = .ok (.iconst 1, 1) := by decide +kernel
theorem dX11_leaves_24 : decode cX11_leaves 24 = .ok (.isub, 1) := by decide +kernel
theorem dX11_leaves_25 : decode cX11_leaves 25 = .ok (.iastore, 1) := by decide +kernel
theorem dX11_leaves_26 : decode cX11_leaves 26 = .ok (.iconst 0, 1) := by decide +kernel
theorem dX11_leaves_27 : decode cX11_leaves 27 = .ok (.istore 5, 2) := by decide +kernel
theorem dX11_leaves_29 : decode cX11_leaves 29 = .ok (.iload 5, 2) := by decide +kernel
theorem dX11_leaves_31 : decode cX11_leaves 31 = .ok (.iconst 4, 1) := by decide +kernel
theorem dX11_leaves_32 : decode cX11_leaves 32 = .ok (.if_icmp .ge 54, 3) := by decide +kernel
theorem dX11_leaves_35 : decode cX11_leaves 35 = .ok (.aload_n 0, 1) := by decide +kernel
theorem dX11_leaves_36 : decode cX11_leaves 36 = .ok (.getfield 16, 3) := by decide +kernel
theorem dX11_leaves_39 : decode cX11_leaves 39 = .ok (.iload_n 2, 1) := by decide +kernel
theorem dX11_leaves_40 : decode cX11_leaves 40 = .ok (.iconst 4, 1) := by decide +kernel
theorem dX11_leaves_41 : decode cX11_leaves 41 = .ok (.iload_n 3, 1) := by decide +kernel
theorem dX11_leaves_42 : decode cX11_leaves 42 = .ok (.imul, 1) := by decide +kernel
theorem dX11_leaves_43 : decode cX11_leaves 43 = .ok (.iadd, 1) := by decide +kernel
theorem dX11_leaves_44 : decode cX11_leaves 44 = .ok (.iload 5, 2) := by decide +kernel
theorem dX11_leaves_46 : decode cX11_leaves 46 = .ok (.iadd, 1) := by decide +kernel
theorem dX11_leaves_47 : decode cX11_leaves 47 = .ok (.iload 5, 2) := by decide +kernel
theorem dX11_leaves_49 : decode cX11_leaves 49 = .ok (.aload_n 0, 1) := by decide +kernel
theorem dX11_leaves_50 : decode cX11_leaves 50 = .ok (.getfield 16, 3) := by decide +kernel
theorem dX11_leaves_53 : decode cX11_leaves 53 = .ok (.iload_n 1, 1) := by decide +kernel
theorem dX11_leaves_54 : decode cX11_leaves 54 = .ok (.iload_n 3, 1) := by decide +kernel
theorem dX11_leaves_55 : decode cX11_leaves 55 = .ok (.iadd, 1) := by decide +kernel
theorem dX11_leaves_56 : decode cX11_leaves 56 = .ok (.iaload, 1) := by decide +kernel
theorem dX11_leaves_57 : decode cX11_leaves 57 = .ok (.if_icmp .ge 21, 3) := by decide +kernel
theorem dX11_leaves_60 : decode cX11_leaves 60 = .ok (.aload_n 0, 1) := by decide +kernel
theorem dX11_leaves_61 : decode cX11_leaves 61 = .ok (.getfield 16, 3) := by decide +kernel
theorem dX11_leaves_64 : decode cX11_leaves 64 = .ok (.iload_n 2, 1) := by decide +kernel
theorem dX11_leaves_65 : decode cX11_leaves 65 = .ok (.iconst 4, 1) := by decide +kernel
theorem dX11_leaves_66 : decode cX11_leaves 66 = .ok (.iload_n 3, 1) := by decide +kernel
theorem dX11_leaves_67 : decode cX11_leaves 67 = .ok (.imul, 1) := by decide +kernel
theorem dX11_leaves_68 : decode cX11_leaves 68 = .ok (.iadd, 1) := by decide +kernel
theorem dX11_leaves_69 : decode cX11_leaves 69 = .ok (.iload 5, 2) := by decide +kernel
theorem dX11_leaves_71 : decode cX11_leaves 71 = .ok (.iadd, 1) := by decide +kernel
theorem dX11_leaves_72 : decode cX11_leaves 72 = .ok (.iconst 1, 1) := by decide +kernel
theorem dX11_leaves_73 : decode cX11_leaves 73 = .ok (.iadd, 1) := by decide +kernel
theorem dX11_leaves_74 : decode cX11_leaves 74 = .ok (.iaload, 1) := by decide +kernel
theorem dX11_leaves_75 : decode cX11_leaves 75 = .ok (.goto 4, 3) := by decide +kernel
theorem dX11_leaves_78 : decode cX11_leaves 78 = .ok (.iconst 0, 1) := by decide +kernel
theorem dX11_leaves_79 : decode cX11_leaves 79 = .ok (.iastore, 1) := by decide +kernel
theorem dX11_leaves_80 : decode cX11_leaves 80 = .ok (.iinc 5 1, 3) := by decide +kernel
theorem dX11_leaves_83 : decode cX11_leaves 83 = .ok (.goto (-54), 3) := by decide +kernel
theorem dX11_leaves_86 : decode cX11_leaves 86 = .ok (.iload 4, 2) := by decide +kernel
theorem dX11_leaves_88 : decode cX11_leaves 88 = .ok (.ireturn, 1) := by decide +kernel
theorem dX11_list_0 : decode cX11_list 0 = .ok (.iload_n 1, 1) := by decide +kernel
theorem dX11_list_1 : decode cX11_list 1 = .ok (.invokestatic 203, 3) := by decide +kernel
theorem dX11_list_4 : decode cX11_list 4 = .ok (.ifCond .ne 5, 3) := by decide +kernel
theorem dX11_list_7 : decode cX11_list 7 = .ok (.iconst (-1), 1) := by decide +kernel
theorem dX11_list_8 : decode cX11_list 8 = .ok (.ireturn, 1) := by decide +kernel
theorem dX11_list_9 : decode cX11_list 9 = .ok (.iload_n 2, 1) := by decide +kernel
theorem dX11_list_10 : decode cX11_list 10 = .ok (.bipush 40, 2) := by decide +kernel
theorem dX11_list_12 : decode cX11_list 12 = .ok (.if_icmp .le 6, 3) := by decide +kernel
theorem dX11_list_15 : decode cX11_list 15 = .ok (.bipush (-2), 2) := by decide +kernel
theorem dX11_list_17 : decode cX11_list 17 = .ok (.ireturn, 1) := by decide +kernel
theorem dX11_list_18 : decode cX11_list 18 = .ok (.iload_n 2, 1) := by decide +kernel
theorem dX11_list_19 : decode cX11_list 19 = .ok (.ifCond .ge 6, 3) := by decide +kernel
theorem dX11_list_22 : decode cX11_list 22 = .ok (.bipush (-14), 2) := by decide +kernel
theorem dX11_list_24 : decode cX11_list 24 = .ok (.ireturn, 1) := by decide +kernel
theorem dX11_list_25 : decode cX11_list 25 = .ok (.aload_n 0, 1) := by decide +kernel
theorem dX11_list_26 : decode cX11_list 26 = .ok (.getfield 58, 3) := by decide +kernel
theorem dX11_list_29 : decode cX11_list 29 = .ok (.iload_n 1, 1) := by decide +kernel
theorem dX11_list_30 : decode cX11_list 30 = .ok (.iload_n 2, 1) := by decide +kernel
theorem dX11_list_31 : decode cX11_list 31 = .ok (.iastore, 1) := by decide +kernel
theorem dX11_list_32 : decode cX11_list 32 = .ok (.iconst 0, 1) := by decide +kernel
theorem dX11_list_33 : decode cX11_list 33 = .ok (.istore_n 3, 1) := by decide +kernel
theorem dX11_list_34 : decode cX11_list 34 = .ok (.iload_n 3, 1) := by decide +kernel
theorem dX11_list_35 : decode cX11_list 35 = .ok (.bipush 40, 2) := by decide +kernel
theorem dX11_list_37 : decode cX11_list 37 = .ok (.if_icmp .ge 21, 3) := by decide +kernel
theorem dX11_list_40 : decode cX11_list 40 = .ok (.aload_n 0, 1) := by decide +kernel
theorem dX11_list_41 : decode cX11_list 41 = .ok (.getfield 61, 3) := by decide +kernel
theorem dX11_list_44 : decode cX11_list 44 = .ok (.bipush 40, 2) := by decide +kernel
theorem dX11_list_46 : decode cX11_list 46 = .ok (.iload_n 1, 1) := by decide +kernel
theorem dX11_list_47 : decode cX11_list 47 = .ok (.imul, 1) := by decide +kernel
theorem dX11_list_48 : decode cX11_list 48 = .ok (.iload_n 3, 1) := by decide +kernel
theorem dX11_list_49 : decode cX11_list 49 = .ok (.iadd, 1) := by decide +kernel
theorem dX11_list_50 : decode cX11_list 50 = .ok (.iconst 0, 1) := by decide +kernel
theorem dX11_list_51 : decode cX11_list 51 = .ok (.iastore, 1) := by decide +kernel
theorem dX11_list_52 : decode cX11_list 52 = .ok (.iinc 3 1, 3) := by decide +kernel
theorem dX11_list_55 : decode cX11_list 55 = .ok (.goto (-21), 3) := by decide +kernel
theorem dX11_list_58 : decode cX11_list 58 = .ok (.iconst 1, 1) := by decide +kernel
theorem dX11_list_59 : decode cX11_list 59 = .ok (.ireturn, 1) := by decide +kernel
theorem dX11_manyOf_0 : decode cX11_manyOf 0 = .ok (.iconst 0, 1) := by decide +kernel
theorem dX11_manyOf_1 : decode cX11_manyOf 1 = .ok (.istore_n 2, 1) := by decide +kernel
theorem dX11_manyOf_2 : decode cX11_manyOf 2 = .ok (.iconst 0, 1) := by decide +kernel
theorem dX11_manyOf_3 : decode cX11_manyOf 3 = .ok (.istore_n 3, 1) := by decide +kernel
theorem dX11_manyOf_4 : decode cX11_manyOf 4 = .ok (.iload_n 3, 1) := by decide +kernel
theorem dX11_manyOf_5 : decode cX11_manyOf 5 = .ok (.aload_n 0, 1) := by decide +kernel
theorem dX11_manyOf_6 : decode cX11_manyOf 6 = .ok (.getfield 231, 3) := by decide +kernel
theorem dX11_manyOf_9 : decode cX11_manyOf 9 = .ok (.if_icmp .ge 54, 3) := by decide +kernel
theorem dX11_manyOf_12 : decode cX11_manyOf 12 = .ok (.iload_n 2, 1) := by decide +kernel
theorem dX11_manyOf_13 : decode cX11_manyOf 13 = .ok (.iload_n 1, 1) := by decide +kernel
theorem dX11_manyOf_14 : decode cX11_manyOf 14 = .ok (.ifCond .eq 21, 3) := by decide +kernel
theorem dX11_manyOf_17 : decode cX11_manyOf 17 = .ok (.aload_n 0, 1) := by decide +kernel
theorem dX11_manyOf_18 : decode cX11_manyOf 18 = .ok (.aload_n 0, 1) := by decide +kernel
theorem dX11_manyOf_19 : decode cX11_manyOf 19 = .ok (.getfield 40, 3) := by decide +kernel
theorem dX11_manyOf_22 : decode cX11_manyOf 22 = .ok (.bipush 52, 2) := by decide +kernel
theorem dX11_manyOf_24 : decode cX11_manyOf 24 = .ok (.iload_n 3, 1) := by decide +kernel
theorem dX11_manyOf_25 : decode cX11_manyOf 25 = .ok (.imul, 1) := by decide +kernel
theorem dX11_manyOf_26 : decode cX11_manyOf 26 = .ok (.invokevirtual 221, 3) := by decide +kernel
theorem dX11_manyOf_29 : decode cX11_manyOf 29 = .ok (.ifCond .eq 25, 3) := by decide +kernel
theorem dX11_manyOf_32 : decode cX11_manyOf 32 = .ok (.goto 18, 3) := by decide +kernel
theorem dX11_manyOf_35 : decode cX11_manyOf 35 = .ok (.aload_n 0, 1) := by decide +kernel
theorem dX11_manyOf_36 : decode cX11_manyOf 36 = .ok (.aload_n 0, 1) := by decide +kernel
theorem dX11_manyOf_37 : decode cX11_manyOf 37 = .ok (.getfield 40, 3) := by decide +kernel
theorem dX11_manyOf_40 : decode cX11_manyOf 40 = .ok (.bipush 52, 2) := by decide +kernel
theorem dX11_manyOf_42 : decode cX11_manyOf 42 = .ok (.iload_n 3, 1) := by decide +kernel
theorem dX11_manyOf_43 : decode cX11_manyOf 43 = .ok (.imul, 1) := by decide +kernel
theorem dX11_manyOf_44 : decode cX11_manyOf 44 = .ok (.invokevirtual 225, 3) := by decide +kernel
theorem dX11_manyOf_47 : decode cX11_manyOf 47 = .ok (.ifCond .eq 7, 3) := by decide +kernel
theorem dX11_manyOf_50 : decode cX11_manyOf 50 = .ok (.iconst 1, 1) := by decide +kernel
theorem dX11_manyOf_51 : decode cX11_manyOf 51 = .ok (.goto 4, 3) := by decide +kernel
theorem dX11_manyOf_54 : decode cX11_manyOf 54 = .ok (.iconst 0, 1) := by decide +kernel
theorem dX11_manyOf_55 : decode cX11_manyOf 55 = .ok (.iadd, 1) := by decide +kernel
theorem dX11_manyOf_56 : decode cX11_manyOf 56 = .ok (.istore_n 2, 1) := by decide +kernel
theorem dX11_manyOf_57 : decode cX11_manyOf 57 = .ok (.iinc 3 1, 3) := by decide +kernel
theorem dX11_manyOf_60 : decode cX11_manyOf 60 = .ok (.goto (-56), 3) := by decide +kernel
theorem dX11_manyOf_63 : decode cX11_manyOf 63 = .ok (.iload_n 2, 1) := by decide +kernel
theorem dX11_manyOf_64 : decode cX11_manyOf 64 = .ok (.ireturn, 1) := by decide +kernel
theorem dX11_missing_0 : decode cX11_missing 0 = .ok (.iload_n 1, 1) := by decide +kernel
theorem dX11_missing_1 : decode cX11_missing 1 = .ok (.invokestatic 72, 3) := by decide +kernel
theorem dX11_missing_4 : decode cX11_missing 4 = .ok (.ifCond .ne 5, 3) := by decide +kernel
theorem dX11_missing_7 : decode cX11_missing 7 = .ok (.iconst (-1), 1) := by decide +kernel
theorem dX11_missing_8 : decode cX11_missing 8 = .ok (.ireturn, 1) := by decide +kernel
theorem dX11_missing_9 : decode cX11_missing 9 = .ok (.aload_n 0, 1) := by decide +kernel
theorem dX11_missing_10 : decode cX11_missing 10 = .ok (.getfield 9, 3) := by decide +kernel
theorem dX11_missing_13 : decode cX11_missing 13 = .ok (.bipush 12, 2) := by decide +kernel
theorem dX11_missing_15 : decode cX11_missing 15 = .ok (.iload_n 1, 1) := by decide +kernel
theorem dX11_missing_16 : decode cX11_missing 16 = .ok (.iadd, 1) := by decide +kernel
theorem dX11_missing_17 : decode cX11_missing 17 = .ok (.iaload, 1) := by decide +kernel
theorem dX11_missing_18 : decode cX11_missing 18 = .ok (.ifCond .gt 27, 3) := by decide +kernel
theorem dX11_missing_21 : decode cX11_missing 21 = .ok (.aload_n 0, 1) := by decide +kernel
theorem dX11_missing_22 : decode cX11_missing 22 = .ok (.getfield 9, 3) := by decide +kernel
theorem dX11_missing_25 : decode cX11_missing 25 = .ok (.bipush 18, 2) := by decide +kernel
theorem dX11_missing_27 : decode cX11_missing 27 = .ok (.iload_n 1, 1) := by decide +kernel
theorem dX11_missing_28 : decode cX11_missing 28 = .ok (.iadd, 1) := by decide +kernel
theorem dX11_missing_29 : decode cX11_missing 29 = .ok (.iaload, 1) := by decide +kernel
theorem dX11_missing_30 : decode cX11_missing 30 = .ok (.ifCond .gt 15, 3) := by decide +kernel
theorem dX11_missing_33 : decode cX11_missing 33 = .ok (.aload_n 0, 1) := by decide +kernel
theorem dX11_missing_34 : decode cX11_missing 34 = .ok (.getfield 9, 3) := by decide +kernel
theorem dX11_missing_37 : decode cX11_missing 37 = .ok (.bipush 33, 2) := by decide +kernel
theorem dX11_missing_39 : decode cX11_missing 39 = .ok (.iload_n 1, 1) := by decide +kernel
theorem dX11_missing_40 : decode cX11_missing 40 = .ok (.iadd, 1) := by decide +kernel
theorem dX11_missing_41 : decode cX11_missing 41 = .ok (.iaload, 1) := by decide +kernel
theorem dX11_missing_42 : decode cX11_missing 42 = .ok (.ifCond .le 6, 3) := by decide +kernel
theorem dX11_missing_45 : decode cX11_missing 45 = .ok (.bipush (-3), 2) := by decide +kernel
theorem dX11_missing_47 : decode cX11_missing 47 = .ok (.ireturn, 1) := by decide +kernel
theorem dX11_missing_48 : decode cX11_missing 48 = .ok (.aload_n 0, 1) := by decide +kernel
theorem dX11_missing_49 : decode cX11_missing 49 = .ok (.getfield 9, 3) := by decide +kernel
theorem dX11_missing_52 : decode cX11_missing 52 = .ok (.bipush 53, 2) := by decide +kernel
theorem dX11_missing_54 : decode cX11_missing 54 = .ok (.iload_n 1, 1) := by decide +kernel
theorem dX11_missing_55 : decode cX11_missing 55 = .ok (.iadd, 1) := by decide +kernel
theorem dX11_missing_56 : decode cX11_missing 56 = .ok (.iaload, 1) := by decide +kernel
theorem dX11_missing_57 : decode cX11_missing 57 = .ok (.istore_n 3, 1) := by decide +kernel
theorem dX11_missing_58 : decode cX11_missing 58 = .ok (.aload_n 0, 1) := by decide +kernel
theorem dX11_missing_59 : decode cX11_missing 59 = .ok (.getfield 9, 3) := by decide +kernel
theorem dX11_missing_62 : decode cX11_missing 62 = .ok (.bipush 53, 2) := by decide +kernel
theorem dX11_missing_64 : decode cX11_missing 64 = .ok (.iload_n 1, 1) := by decide +kernel
theorem dX11_missing_65 : decode cX11_missing 65 = .ok (.iadd, 1) := by decide +kernel
theorem dX11_missing_66 : decode cX11_missing 66 = .ok (.iload_n 2, 1) := by decide +kernel
theorem dX11_missing_67 : decode cX11_missing 67 = .ok (.ifCond .eq 7, 3) := by decide +kernel
theorem dX11_missing_70 : decode cX11_missing 70 = .ok (.iconst 1, 1) := by decide +kernel
theorem dX11_missing_71 : decode cX11_missing 71 = .ok (.goto 4, 3) := by decide +kernel
theorem dX11_missing_74 : decode cX11_missing 74 = .ok (.iconst 0, 1) := by decide +kernel
theorem dX11_missing_75 : decode cX11_missing 75 = .ok (.iastore, 1) := by decide +kernel
theorem dX11_missing_76 : decode cX11_missing 76 = .ok (.iload_n 3, 1) := by decide +kernel
theorem dX11_missing_77 : decode cX11_missing 77 = .ok (.ireturn, 1) := by decide +kernel
theorem dX11_monitors_0 : decode cX11_monitors 0 = .ok (.aload_n 0, 1) := by decide +kernel
theorem dX11_monitors_1 : decode cX11_monitors 1 = .ok (.getfield 9, 3) := by decide +kernel
theorem dX11_monitors_4 : decode cX11_monitors 4 = .ok (.bipush 53, 2) := by decide +kernel
theorem dX11_monitors_6 : decode cX11_monitors 6 = .ok (.iload_n 3, 1) := by decide +kernel
theorem dX11_monitors_7 : decode cX11_monitors 7 = .ok (.iadd, 1) := by decide +kernel
theorem dX11_monitors_8 : decode cX11_monitors 8 = .ok (.iaload, 1) := by decide +kernel
theorem dX11_monitors_9 : decode cX11_monitors 9 = .ok (.iconst 1, 1) := by decide +kernel
theorem dX11_monitors_10 : decode cX11_monitors 10 = .ok (.if_icmp .ne 11, 3) := by decide +kernel
theorem dX11_monitors_13 : decode cX11_monitors 13 = .ok (.aload_n 0, 1) := by decide +kernel
theorem dX11_monitors_14 : decode cX11_monitors 14 = .ok (.iconst 1, 1) := by decide +kernel
theorem dX11_monitors_15 : decode cX11_monitors 15 = .ok (.putfield 166, 3) := by decide +kernel
theorem dX11_monitors_18 : decode cX11_monitors 18 = .ok (.goto 136, 3) := by decide +kernel
theorem dX11_monitors_21 : decode cX11_monitors 21 = .ok (.iload_n 2, 1) := by decide +kernel
theorem dX11_monitors_22 : decode cX11_monitors 22 = .ok (.ifCond .ne 12, 3) := by decide +kernel
theorem dX11_monitors_25 : decode cX11_monitors 25 = .ok (.aload_n 0, 1) := by decide +kernel
theorem dX11_monitors_26 : decode cX11_monitors 26 = .ok (.iload_n 1, 1) := by decide +kernel
theorem dX11_monitors_27 : decode cX11_monitors 27 = .ok (.iload_n 3, 1) := by decide +kernel
theorem dX11_monitors_28 : decode cX11_monitors 28 = .ok (.invokevirtual 173, 3) := by decide +kernel
theorem dX11_monitors_31 : decode cX11_monitors 31 = .ok (.goto 123, 3) := by decide +kernel
theorem dX11_monitors_34 : decode cX11_monitors 34 = .ok (.aload_n 0, 1) := by decide +kernel
theorem dX11_monitors_35 : decode cX11_monitors 35 = .ok (.iload_n 1, 1) := by decide +kernel
theorem dX11_monitors_36 : decode cX11_monitors 36 = .ok (.iload_n 3, 1) := by decide +kernel
theorem dX11_monitors_37 : decode cX11_monitors 37 = .ok (.invokevirtual 160, 3) := by decide +kernel
theorem dX11_monitors_40 : decode cX11_monitors 40 = .ok (.ifCond .ne 11, 3) := by decide +kernel
theorem dX11_monitors_43 : decode cX11_monitors 43 = .ok (.aload_n 0, 1) := by decide +kernel
theorem dX11_monitors_44 : decode cX11_monitors 44 = .ok (.iconst 2, 1) := by decide +kernel
theorem dX11_monitors_45 : decode cX11_monitors 45 = .ok (.putfield 166, 3) := by decide +kernel
theorem dX11_monitors_48 : decode cX11_monitors 48 = .ok (.goto 106, 3) := by decide +kernel
theorem dX11_monitors_51 : decode cX11_monitors 51 = .ok (.iload_n 2, 1) := by decide +kernel
theorem dX11_monitors_52 : decode cX11_monitors 52 = .ok (.iconst 1, 1) := by decide +kernel
theorem dX11_monitors_53 : decode cX11_monitors 53 = .ok (.if_icmp .ne 36, 3) := by decide +kernel
theorem dX11_monitors_56 : decode cX11_monitors 56 = .ok (.aload_n 0, 1) := by decide +kernel
theorem dX11_monitors_57 : decode cX11_monitors 57 = .ok (.getfield 16, 3) := by decide +kernel
theorem dX11_monitors_60 : decode cX11_monitors 60 = .ok (.bipush 15, 2) := by decide +kernel
theorem dX11_monitors_62 : decode cX11_monitors 62 = .ok (.iload_n 3, 1) := by decide +kernel
theorem dX11_monitors_63 : decode cX11_monitors 63 = .ok (.iadd, 1) := by decide +kernel
theorem dX11_monitors_64 : decode cX11_monitors 64 = .ok (.dup2, 1) := by decide +kernel
theorem dX11_monitors_65 : decode cX11_monitors 65 = .ok (.iaload, 1) := by decide +kernel
theorem dX11_monitors_66 : decode cX11_monitors 66 = .ok (.iconst 1, 1) := by decide +kernel
theorem dX11_monitors_67 : decode cX11_monitors 67 = .ok (.isub, 1) := by decide +kernel
theorem dX11_monitors_68 : decode cX11_monitors 68 = .ok (.iastore, 1) := by decide +kernel
theorem dX11_monitors_69 : decode cX11_monitors 69 = .ok (.aload_n 0, 1) := by decide +kernel
theorem dX11_monitors_70 : decode cX11_monitors 70 = .ok (.getfield 16, 3) := by decide +kernel
theorem dX11_monitors_73 : decode cX11_monitors 73 = .ok (.bipush 15, 2) := by decide +kernel
theorem dX11_monitors_75 : decode cX11_monitors 75 = .ok (.iload_n 3, 1) := by decide +kernel
theorem dX11_monitors_76 : decode cX11_monitors 76 = .ok (.iadd, 1) := by decide +kernel
theorem dX11_monitors_77 : decode cX11_monitors 77 = .ok (.iaload, 1) := by decide +kernel
theorem dX11_monitors_78 : decode cX11_monitors 78 = .ok (.ifCond .ne 76, 3) := by decide +kernel
theorem dX11_monitors_81 : decode cX11_monitors 81 = .ok (.aload_n 0, 1) := by decide +kernel
theorem dX11_monitors_82 : decode cX11_monitors 82 = .ok (.iload_n 3, 1) := by decide +kernel
theorem dX11_monitors_83 : decode cX11_monitors 83 = .ok (.invokevirtual 163, 3) := by decide +kernel
theorem dX11_monitors_86 : decode cX11_monitors 86 = .ok (.goto 68, 3) := by decide +kernel
theorem dX11_monitors_89 : decode cX11_monitors 89 = .ok (.iload_n 2, 1) := by decide +kernel
theorem dX11_monitors_90 : decode cX11_monitors 90 = .ok (.iconst 2, 1) := by decide +kernel
theorem dX11_monitors_91 : decode cX11_monitors 91 = .ok (.if_icmp .ne 48, 3) := by decide +kernel
theorem dX11_monitors_94 : decode cX11_monitors 94 = .ok (.aload_n 0, 1) := by decide +kernel
theorem dX11_monitors_95 : decode cX11_monitors 95 = .ok (.getfield 16, 3) := by decide +kernel
theorem dX11_monitors_98 : decode cX11_monitors 98 = .ok (.iconst 4, 1) := by decide +kernel
theorem dX11_monitors_99 : decode cX11_monitors 99 = .ok (.iload_n 1, 1) := by decide +kernel
theorem dX11_monitors_100 : decode cX11_monitors 100 = .ok (.iadd, 1) := by decide +kernel
theorem dX11_monitors_101 : decode cX11_monitors 101 = .ok (.iconst 2, 1) := by decide +kernel
theorem dX11_monitors_102 : decode cX11_monitors 102 = .ok (.iastore, 1) := by decide +kernel
theorem dX11_monitors_103 : decode cX11_monitors 103 = .ok (.aload_n 0, 1) := by decide +kernel
theorem dX11_monitors_104 : decode cX11_monitors 104 = .ok (.getfield 16, 3) := by decide +kernel
theorem dX11_monitors_107 : decode cX11_monitors 107 = .ok (.bipush 8, 2) := by decide +kernel
theorem dX11_monitors_109 : decode cX11_monitors 109 = .ok (.iload_n 1, 1) := by decide +kernel
theorem dX11_monitors_110 : decode cX11_monitors 110 = .ok (.iadd, 1) := by decide +kernel
theorem dX11_monitors_111 : decode cX11_monitors 111 = .ok (.aload_n 0, 1) := by decide +kernel
theorem dX11_monitors_112 : decode cX11_monitors 112 = .ok (.getfield 16, 3) := by decide +kernel
theorem dX11_monitors_115 : decode cX11_monitors 115 = .ok (.bipush 15, 2) := by decide +kernel
theorem dX11_monitors_117 : decode cX11_monitors 117 = .ok (.iload_n 3, 1) := by decide +kernel
theorem dX11_monitors_118 : decode cX11_monitors 118 = .ok (.iadd, 1) := by decide +kernel
theorem dX11_monitors_119 : decode cX11_monitors 119 = .ok (.iaload, 1) := by decide +kernel
theorem dX11_monitors_120 : decode cX11_monitors 120 = .ok (.iastore, 1) := by decide +kernel
theorem dX11_monitors_121 : decode cX11_monitors 121 = .ok (.aload_n 0, 1) := by decide +kernel
theorem dX11_monitors_122 : decode cX11_monitors 122 = .ok (.bipush 33, 2) := by decide +kernel
theorem dX11_monitors_124 : decode cX11_monitors 124 = .ok (.bipush 36, 2) := by decide +kernel
theorem dX11_monitors_126 : decode cX11_monitors 126 = .ok (.iload_n 3, 1) := by decide +kernel
theorem dX11_monitors_127 : decode cX11_monitors 127 = .ok (.iload_n 1, 1) := by decide +kernel
theorem dX11_monitors_128 : decode cX11_monitors 128 = .ok (.invokevirtual 169, 3) := by decide +kernel
theorem dX11_monitors_131 : decode cX11_monitors 131 = .ok (.aload_n 0, 1) := by decide +kernel
theorem dX11_monitors_132 : decode cX11_monitors 132 = .ok (.iload_n 3, 1) := by decide +kernel
theorem dX11_monitors_133 : decode cX11_monitors 133 = .ok (.invokevirtual 163, 3) := by decide +kernel
theorem dX11_monitors_136 : decode cX11_monitors 136 = .ok (.goto 18, 3) := by decide +kernel
theorem dX11_monitors_139 : decode cX11_monitors 139 = .ok (.aload_n 0, 1) := by decide +kernel
theorem dX11_monitors_140 : decode cX11_monitors 140 = .ok (.iload_n 3, 1) := by decide +kernel
theorem dX11_monitors_141 : decode cX11_monitors 141 = .ok (.iload_n 2, 1) := by decide +kernel
theorem dX11_monitors_142 : decode cX11_monitors 142 = .ok (.iconst 4, 1) := by decide +kernel
theorem dX11_monitors_143 : decode cX11_monitors 143 = .ok (.if_icmp .ne 7, 3) := by decide +kernel
theorem dX11_monitors_146 : decode cX11_monitors 146 = .ok (.iconst 1, 1) := by decide +kernel
theorem dX11_monitors_147 : decode cX11_monitors 147 = .ok (.goto 4, 3) := by decide +kernel
theorem dX11_monitors_150 : decode cX11_monitors 150 = .ok (.iconst 0, 1) := by decide +kernel
theorem dX11_monitors_151 : decode cX11_monitors 151 = .ok (.invokevirtual 177, 3) := by decide +kernel
theorem dX11_monitors_154 : decode cX11_monitors 154 = .ok (.return_, 1) := by decide +kernel
theorem dX11_must_0 : decode cX11_must 0 = .ok (.aload_n 0, 1) := by decide +kernel
theorem dX11_must_1 : decode cX11_must 1 = .ok (.aload_n 0, 1) := by decide +kernel
theorem dX11_must_2 : decode cX11_must 2 = .ok (.getfield 92, 3) := by decide +kernel
theorem dX11_must_5 : decode cX11_must 5 = .ok (.ifCond .ge 11, 3) := by decide +kernel
theorem dX11_must_8 : decode cX11_must 8 = .ok (.iload_n 1, 1) := by decide +kernel
theorem dX11_must_9 : decode cX11_must 9 = .ok (.ifCond .ne 7, 3) := by decide +kernel
theorem dX11_must_12 : decode cX11_must 12 = .ok (.iload_n 2, 1) := by decide +kernel
theorem dX11_must_13 : decode cX11_must 13 = .ok (.goto 7, 3) := by decide +kernel
theorem dX11_must_16 : decode cX11_must 16 = .ok (.aload_n 0, 1) := by decide +kernel
theorem dX11_must_17 : decode cX11_must 17 = .ok (.getfield 92, 3) := by decide +kernel
theorem dX11_must_20 : decode cX11_must 20 = .ok (.putfield 92, 3) := by decide +kernel
theorem dX11_must_23 : decode cX11_must 23 = .ok (.return_, 1) := by decide +kernel
theorem dX11_notifies_0 : decode cX11_notifies 0 = .ok (.aload_n 0, 1) := by decide +kernel
theorem dX11_notifies_1 : decode cX11_notifies 1 = .ok (.getfield 16, 3) := by decide +kernel
theorem dX11_notifies_4 : decode cX11_notifies 4 = .ok (.bipush 33, 2) := by decide +kernel
theorem dX11_notifies_6 : decode cX11_notifies 6 = .ok (.iload_n 1, 1) := by decide +kernel
theorem dX11_notifies_7 : decode cX11_notifies 7 = .ok (.iadd, 1) := by decide +kernel
theorem dX11_notifies_8 : decode cX11_notifies 8 = .ok (.iaload, 1) := by decide +kernel
theorem dX11_notifies_9 : decode cX11_notifies 9 = .ok (.ifCond .ne 7, 3) := by decide +kernel
theorem dX11_notifies_12 : decode cX11_notifies 12 = .ok (.iconst 0, 1) := by decide +kernel
theorem dX11_notifies_13 : decode cX11_notifies 13 = .ok (.goto 20, 3) := by decide +kernel
theorem dX11_notifies_16 : decode cX11_notifies 16 = .ok (.iload_n 2, 1) := by decide +kernel
theorem dX11_notifies_17 : decode cX11_notifies 17 = .ok (.ifCond .eq 15, 3) := by decide +kernel
theorem dX11_notifies_20 : decode cX11_notifies 20 = .ok (.aload_n 0, 1) := by decide +kernel
theorem dX11_notifies_21 : decode cX11_notifies 21 = .ok (.getfield 16, 3) := by decide +kernel
theorem dX11_notifies_24 : decode cX11_notifies 24 = .ok (.bipush 33, 2) := by decide +kernel
theorem dX11_notifies_26 : decode cX11_notifies 26 = .ok (.iload_n 1, 1) := by decide +kernel
theorem dX11_notifies_27 : decode cX11_notifies 27 = .ok (.iadd, 1) := by decide +kernel
theorem dX11_notifies_28 : decode cX11_notifies 28 = .ok (.iaload, 1) := by decide +kernel
theorem dX11_notifies_29 : decode cX11_notifies 29 = .ok (.goto 4, 3) := by decide +kernel
theorem dX11_notifies_32 : decode cX11_notifies 32 = .ok (.iconst 1, 1) := by decide +kernel
theorem dX11_notifies_33 : decode cX11_notifies 33 = .ok (.istore_n 3, 1) := by decide +kernel
theorem dX11_notifies_34 : decode cX11_notifies 34 = .ok (.iconst 0, 1) := by decide +kernel
theorem dX11_notifies_35 : decode cX11_notifies 35 = .ok (.istore 4, 2) := by decide +kernel
theorem dX11_notifies_37 : decode cX11_notifies 37 = .ok (.iload 4, 2) := by decide +kernel
theorem dX11_notifies_39 : decode cX11_notifies 39 = .ok (.iload_n 3, 1) := by decide +kernel
theorem dX11_notifies_40 : decode cX11_notifies 40 = .ok (.if_icmp .ge 41, 3) := by decide +kernel
theorem dX11_notifies_43 : decode cX11_notifies 43 = .ok (.aload_n 0, 1) := by decide +kernel
theorem dX11_notifies_44 : decode cX11_notifies 44 = .ok (.bipush 33, 2) := by decide +kernel
theorem dX11_notifies_46 : decode cX11_notifies 46 = .ok (.bipush 36, 2) := by decide +kernel
theorem dX11_notifies_48 : decode cX11_notifies 48 = .ok (.iload_n 1, 1) := by decide +kernel
theorem dX11_notifies_49 : decode cX11_notifies 49 = .ok (.invokevirtual 154, 3) := by decide +kernel
theorem dX11_notifies_52 : decode cX11_notifies 52 = .ok (.istore 5, 2) := by decide +kernel
theorem dX11_notifies_54 : decode cX11_notifies 54 = .ok (.aload_n 0, 1) := by decide +kernel
theorem dX11_notifies_55 : decode cX11_notifies 55 = .ok (.getfield 16, 3) := by decide +kernel
theorem dX11_notifies_58 : decode cX11_notifies 58 = .ok (.iconst 4, 1) := by decide +kernel
theorem dX11_notifies_59 : decode cX11_notifies 59 = .ok (.iload 5, 2) := by decide +kernel
theorem dX11_notifies_61 : decode cX11_notifies 61 = .ok (.iadd, 1) := by decide +kernel
theorem dX11_notifies_62 : decode cX11_notifies 62 = .ok (.iconst 1, 1) := by decide +kernel
theorem dX11_notifies_63 : decode cX11_notifies 63 = .ok (.iastore, 1) := by decide +kernel
theorem dX11_notifies_64 : decode cX11_notifies 64 = .ok (.aload_n 0, 1) := by decide +kernel
theorem dX11_notifies_65 : decode cX11_notifies 65 = .ok (.bipush 18, 2) := by decide +kernel
theorem dX11_notifies_67 : decode cX11_notifies 67 = .ok (.bipush 21, 2) := by decide +kernel
theorem dX11_notifies_69 : decode cX11_notifies 69 = .ok (.iload_n 1, 1) := by decide +kernel
theorem dX11_notifies_70 : decode cX11_notifies 70 = .ok (.iload 5, 2) := by decide +kernel
theorem dX11_notifies_72 : decode cX11_notifies 72 = .ok (.invokevirtual 169, 3) := by decide +kernel
theorem dX11_notifies_75 : decode cX11_notifies 75 = .ok (.iinc 4 1, 3) := by decide +kernel
theorem dX11_notifies_78 : decode cX11_notifies 78 = .ok (.goto (-41), 3) := by decide +kernel
theorem dX11_notifies_81 : decode cX11_notifies 81 = .ok (.return_, 1) := by decide +kernel
theorem dX11_number_0 : decode cX11_number 0 = .ok (.aload_n 0, 1) := by decide +kernel
theorem dX11_number_1 : decode cX11_number 1 = .ok (.bipush 32, 2) := by decide +kernel
theorem dX11_number_3 : decode cX11_number 3 = .ok (.invokevirtual 111, 3) := by decide +kernel
theorem dX11_number_6 : decode cX11_number 6 = .ok (.aload_n 0, 1) := by decide +kernel
theorem dX11_number_7 : decode cX11_number 7 = .ok (.getfield 89, 3) := by decide +kernel
theorem dX11_number_10 : decode cX11_number 10 = .ok (.istore 4, 2) := by decide +kernel
theorem dX11_number_12 : decode cX11_number 12 = .ok (.iload_n 3, 1) := by decide +kernel
theorem dX11_number_13 : decode cX11_number 13 = .ok (.ifCond .eq 16, 3) := by decide +kernel
theorem dX11_number_16 : decode cX11_number 16 = .ok (.aload_n 0, 1) := by decide +kernel
theorem dX11_number_17 : decode cX11_number 17 = .ok (.invokevirtual 95, 3) := by decide +kernel
theorem dX11_number_20 : decode cX11_number 20 = .ok (.bipush 45, 2) := by decide +kernel
theorem dX11_number_22 : decode cX11_number 22 = .ok (.if_icmp .ne 7, 3) := by decide +kernel
theorem dX11_number_25 : decode cX11_number 25 = .ok (.iconst 1, 1) := by decide +kernel
theorem dX11_number_26 : decode cX11_number 26 = .ok (.goto 4, 3) := by decide +kernel
theorem dX11_number_29 : decode cX11_number 29 = .ok (.iconst 0, 1) := by decide +kernel
theorem dX11_number_30 : decode cX11_number 30 = .ok (.istore 5, 2) := by decide +kernel
theorem dX11_number_32 : decode cX11_number 32 = .ok (.aload_n 0, 1) := by decide +kernel
theorem dX11_number_33 : decode cX11_number 33 = .ok (.dup, 1) := by decide +kernel
theorem dX11_number_34 : decode cX11_number 34 = .ok (.getfield 89, 3) := by decide +kernel
theorem dX11_number_37 : decode cX11_number 37 = .ok (.iload 5, 2) := by decide +kernel
theorem dX11_number_39 : decode cX11_number 39 = .ok (.ifCond .eq 7, 3) := by decide +kernel
theorem dX11_number_42 : decode cX11_number 42 = .ok (.iconst 1, 1) := by decide +kernel
theorem dX11_number_43 : decode cX11_number 43 = .ok (.goto 4, 3) := by decide +kernel
theorem dX11_number_46 : decode cX11_number 46 = .ok (.iconst 0, 1) := by decide +kernel
theorem dX11_number_47 : decode cX11_number 47 = .ok (.iadd, 1) := by decide +kernel
theorem dX11_number_48 : decode cX11_number 48 = .ok (.putfield 89, 3) := by decide +kernel
theorem dX11_number_51 : decode cX11_number 51 = .ok (.aload_n 0, 1) := by decide +kernel
theorem dX11_number_52 : decode cX11_number 52 = .ok (.aload_n 0, 1) := by decide +kernel
theorem dX11_number_53 : decode cX11_number 53 = .ok (.invokevirtual 95, 3) := by decide +kernel
theorem dX11_number_56 : decode cX11_number 56 = .ok (.i2l, 1) := by decide +kernel
theorem dX11_number_57 : decode cX11_number 57 = .ok (.ldc2_w 115, 3) := by decide +kernel
theorem dX11_number_60 : decode cX11_number 60 = .ok (.ldc2_w 117, 3) := by decide +kernel
theorem dX11_number_63 : decode cX11_number 63 = .ok (.invokestatic 64, 3) := by decide +kernel
theorem dX11_number_66 : decode cX11_number 66 = .ok (.aload_n 0, 1) := by decide +kernel
theorem dX11_number_67 : decode cX11_number 67 = .ok (.getfield 89, 3) := by decide +kernel
theorem dX11_number_70 : decode cX11_number 70 = .ok (.invokevirtual 99, 3) := by decide +kernel
theorem dX11_number_73 : decode cX11_number 73 = .ok (.iconst 0, 1) := by decide +kernel
theorem dX11_number_74 : decode cX11_number 74 = .ok (.istore 6, 2) := by decide +kernel
theorem dX11_number_76 : decode cX11_number 76 = .ok (.iconst 0, 1) := by decide +kernel
theorem dX11_number_77 : decode cX11_number 77 = .ok (.istore 7, 2) := by decide +kernel
theorem dX11_number_79 : decode cX11_number 79 = .ok (.iload 7, 2) := by decide +kernel
theorem dX11_number_81 : decode cX11_number 81 = .ok (.iload_n 1, 1) := by decide +kernel
theorem dX11_number_82 : decode cX11_number 82 = .ok (.if_icmp .ge 51, 3) := by decide +kernel
theorem dX11_number_85 : decode cX11_number 85 = .ok (.aload_n 0, 1) := by decide +kernel
theorem dX11_number_86 : decode cX11_number 86 = .ok (.invokevirtual 95, 3) := by decide +kernel
theorem dX11_number_89 : decode cX11_number 89 = .ok (.i2l, 1) := by decide +kernel
theorem dX11_number_90 : decode cX11_number 90 = .ok (.ldc2_w 115, 3) := by decide +kernel
theorem dX11_number_93 : decode cX11_number 93 = .ok (.ldc2_w 117, 3) := by decide +kernel
theorem dX11_number_96 : decode cX11_number 96 = .ok (.invokestatic 64, 3) := by decide +kernel
theorem dX11_number_99 : decode cX11_number 99 = .ok (.ifCond .eq 34, 3) := by decide +kernel
theorem dX11_number_102 : decode cX11_number 102 = .ok (.bipush 10, 2) := by decide +kernel
theorem dX11_number_104 : decode cX11_number 104 = .ok (.iload 6, 2) := by decide +kernel
theorem dX11_number_106 : decode cX11_number 106 = .ok (.imul, 1) := by decide +kernel
theorem dX11_number_107 : decode cX11_number 107 = .ok (.aload_n 0, 1) := by decide +kernel
theorem dX11_number_108 : decode cX11_number 108 = .ok (.invokevirtual 95, 3) := by decide +kernel
theorem dX11_number_111 : decode cX11_number 111 = .ok (.iadd, 1) := by decide +kernel
theorem dX11_number_112 : decode cX11_number 112 = .ok (.bipush 48, 2) := by decide +kernel
theorem dX11_number_114 : decode cX11_number 114 = .ok (.isub, 1) := by decide +kernel
theorem dX11_number_115 : decode cX11_number 115 = .ok (.istore 6, 2) := by decide +kernel
theorem dX11_number_117 : decode cX11_number 117 = .ok (.aload_n 0, 1) := by decide +kernel
theorem dX11_number_118 : decode cX11_number 118 = .ok (.dup, 1) := by decide +kernel
theorem dX11_number_119 : decode cX11_number 119 = .ok (.getfield 89, 3) := by decide +kernel
theorem dX11_number_122 : decode cX11_number 122 = .ok (.iconst 1, 1) := by decide +kernel
theorem dX11_number_123 : decode cX11_number 123 = .ok (.iadd, 1) := by decide +kernel
theorem dX11_number_124 : decode cX11_number 124 = .ok (.putfield 89, 3) := by decide +kernel
theorem dX11_number_127 : decode cX11_number 127 = .ok (.iinc 7 1, 3) := by decide +kernel
theorem dX11_number_130 : decode cX11_number 130 = .ok (.goto (-51), 3) := by decide +kernel
theorem dX11_number_133 : decode cX11_number 133 = .ok (.aload_n 0, 1) := by decide +kernel
theorem dX11_number_134 : decode cX11_number 134 = .ok (.iload 6, 2) := by decide +kernel
theorem dX11_number_136 : decode cX11_number 136 = .ok (.iload_n 2, 1) := by decide +kernel
theorem dX11_number_137 : decode cX11_number 137 = .ok (.if_icmp .gt 7, 3) := by decide +kernel
theorem dX11_number_140 : decode cX11_number 140 = .ok (.iconst 1, 1) := by decide +kernel
theorem dX11_number_141 : decode cX11_number 141 = .ok (.goto 4, 3) := by decide +kernel
theorem dX11_number_144 : decode cX11_number 144 = .ok (.iconst 0, 1) := by decide +kernel
theorem dX11_number_145 : decode cX11_number 145 = .ok (.iload 4, 2) := by decide +kernel
theorem dX11_number_147 : decode cX11_number 147 = .ok (.invokevirtual 99, 3) := by decide +kernel
theorem dX11_number_150 : decode cX11_number 150 = .ok (.iload 5, 2) := by decide +kernel
theorem dX11_number_152 : decode cX11_number 152 = .ok (.ifCond .eq 9, 3) := by decide +kernel
theorem dX11_number_155 : decode cX11_number 155 = .ok (.iload 6, 2) := by decide +kernel
theorem dX11_number_157 : decode cX11_number 157 = .ok (.ineg, 1) := by decide +kernel
theorem dX11_number_158 : decode cX11_number 158 = .ok (.goto 5, 3) := by decide +kernel
theorem dX11_number_161 : decode cX11_number 161 = .ok (.iload 6, 2) := by decide +kernel
theorem dX11_number_163 : decode cX11_number 163 = .ok (.ireturn, 1) := by decide +kernel
theorem dX11_of_0 : decode cX11_of 0 = .ok (.aload_n 0, 1) := by decide +kernel
theorem dX11_of_1 : decode cX11_of 1 = .ok (.iload_n 1, 1) := by decide +kernel
theorem dX11_of_2 : decode cX11_of 2 = .ok (.invokevirtual 133, 3) := by decide +kernel
theorem dX11_of_5 : decode cX11_of 5 = .ok (.ifCond .ne 5, 3) := by decide +kernel
theorem dX11_of_8 : decode cX11_of 8 = .ok (.iconst (-1), 1) := by decide +kernel
theorem dX11_of_9 : decode cX11_of 9 = .ok (.ireturn, 1) := by decide +kernel
theorem dX11_of_10 : decode cX11_of 10 = .ok (.iload_n 2, 1) := by decide +kernel
theorem dX11_of_11 : decode cX11_of 11 = .ok (.tableswitch 130 0 6 #[41, 50, 57, 67, 73, 96, 119], 41) := by decide +kernel
theorem dX11_of_52 : decode cX11_of 52 = .ok (.aload_n 0, 1) := by decide +kernel
theorem dX11_of_53 : decode cX11_of 53 = .ok (.getfield 9, 3) := by decide +kernel
theorem dX11_of_56 : decode cX11_of 56 = .ok (.iconst 4, 1) := by decide +kernel
theorem dX11_of_57 : decode cX11_of 57 = .ok (.iload_n 1, 1) := by decide +kernel
theorem dX11_of_58 : decode cX11_of 58 = .ok (.iadd, 1) := by decide +kernel
theorem dX11_of_59 : decode cX11_of 59 = .ok (.iaload, 1) := by decide +kernel
theorem dX11_of_60 : decode cX11_of 60 = .ok (.ireturn, 1) := by decide +kernel
theorem dX11_of_61 : decode cX11_of 61 = .ok (.aload_n 0, 1) := by decide +kernel
theorem dX11_of_62 : decode cX11_of 62 = .ok (.getfield 9, 3) := by decide +kernel
theorem dX11_of_65 : decode cX11_of 65 = .ok (.iload_n 1, 1) := by decide +kernel
theorem dX11_of_66 : decode cX11_of 66 = .ok (.iaload, 1) := by decide +kernel
theorem dX11_of_67 : decode cX11_of 67 = .ok (.ireturn, 1) := by decide +kernel
theorem dX11_of_68 : decode cX11_of 68 = .ok (.aload_n 0, 1) := by decide +kernel
theorem dX11_of_69 : decode cX11_of 69 = .ok (.getfield 9, 3) := by decide +kernel
theorem dX11_of_72 : decode cX11_of 72 = .ok (.bipush 8, 2) := by decide +kernel
theorem dX11_of_74 : decode cX11_of 74 = .ok (.iload_n 1, 1) := by decide +kernel
theorem dX11_of_75 : decode cX11_of 75 = .ok (.iadd, 1) := by decide +kernel
theorem dX11_of_76 : decode cX11_of 76 = .ok (.iaload, 1) := by decide +kernel
theorem dX11_of_77 : decode cX11_of 77 = .ok (.ireturn, 1) := by decide +kernel
theorem dX11_of_78 : decode cX11_of 78 = .ok (.aload_n 0, 1) := by decide +kernel
theorem dX11_of_79 : decode cX11_of 79 = .ok (.iload_n 1, 1) := by decide +kernel
theorem dX11_of_80 : decode cX11_of 80 = .ok (.invokevirtual 206, 3) := by decide +kernel
theorem dX11_of_83 : decode cX11_of 83 = .ok (.ireturn, 1) := by decide +kernel
theorem dX11_of_84 : decode cX11_of 84 = .ok (.aload_n 0, 1) := by decide +kernel
theorem dX11_of_85 : decode cX11_of 85 = .ok (.getfield 9, 3) := by decide +kernel
theorem dX11_of_88 : decode cX11_of 88 = .ok (.iconst 4, 1) := by decide +kernel
theorem dX11_of_89 : decode cX11_of 89 = .ok (.iload_n 1, 1) := by decide +kernel
theorem dX11_of_90 : decode cX11_of 90 = .ok (.iadd, 1) := by decide +kernel
theorem dX11_of_91 : decode cX11_of 91 = .ok (.iaload, 1) := by decide +kernel
theorem dX11_of_92 : decode cX11_of 92 = .ok (.iconst 4, 1) := by decide +kernel
theorem dX11_of_93 : decode cX11_of 93 = .ok (.if_icmp .ne 12, 3) := by decide +kernel
theorem dX11_of_96 : decode cX11_of 96 = .ok (.aload_n 0, 1) := by decide +kernel
theorem dX11_of_97 : decode cX11_of 97 = .ok (.getfield 19, 3) := by decide +kernel
theorem dX11_of_100 : decode cX11_of 100 = .ok (.iload_n 1, 1) := by decide +kernel
theorem dX11_of_101 : decode cX11_of 101 = .ok (.iaload, 1) := by decide +kernel
theorem dX11_of_102 : decode cX11_of 102 = .ok (.goto 4, 3) := by decide +kernel
theorem dX11_of_105 : decode cX11_of 105 = .ok (.iconst 0, 1) := by decide +kernel
theorem dX11_of_106 : decode cX11_of 106 = .ok (.ireturn, 1) := by decide +kernel
theorem dX11_of_107 : decode cX11_of 107 = .ok (.aload_n 0, 1) := by decide +kernel
theorem dX11_of_108 : decode cX11_of 108 = .ok (.getfield 9, 3) := by decide +kernel
theorem dX11_of_111 : decode cX11_of 111 = .ok (.iconst 4, 1) := by decide +kernel
theorem dX11_of_112 : decode cX11_of 112 = .ok (.iload_n 1, 1) := by decide +kernel
theorem dX11_of_113 : decode cX11_of 113 = .ok (.iadd, 1) := by decide +kernel
theorem dX11_of_114 : decode cX11_of 114 = .ok (.iaload, 1) := by decide +kernel
theorem dX11_of_115 : decode cX11_of 115 = .ok (.iconst 3, 1) := by decide +kernel
theorem dX11_of_116 : decode cX11_of 116 = .ok (.if_icmp .ne 12, 3) := by decide +kernel
theorem dX11_of_119 : decode cX11_of 119 = .ok (.aload_n 0, 1) := by decide +kernel
theorem dX11_of_120 : decode cX11_of 120 = .ok (.getfield 22, 3) := by decide +kernel
theorem dX11_of_123 : decode cX11_of 123 = .ok (.iload_n 1, 1) := by decide +kernel
theorem dX11_of_124 : decode cX11_of 124 = .ok (.iaload, 1) := by decide +kernel
theorem dX11_of_125 : decode cX11_of 125 = .ok (.goto 4, 3) := by decide +kernel
theorem dX11_of_128 : decode cX11_of 128 = .ok (.iconst 0, 1) := by decide +kernel
theorem dX11_of_129 : decode cX11_of 129 = .ok (.ireturn, 1) := by decide +kernel
theorem dX11_of_130 : decode cX11_of 130 = .ok (.aload_n 0, 1) := by decide +kernel
theorem dX11_of_131 : decode cX11_of 131 = .ok (.aload_n 0, 1) := by decide +kernel
theorem dX11_of_132 : decode cX11_of 132 = .ok (.getfield 9, 3) := by decide +kernel
theorem dX11_of_135 : decode cX11_of 135 = .ok (.iconst 0, 1) := by decide +kernel
theorem dX11_of_136 : decode cX11_of 136 = .ok (.iload_n 1, 1) := by decide +kernel
theorem dX11_of_137 : decode cX11_of 137 = .ok (.invokevirtual 209, 3) := by decide +kernel
theorem dX11_of_140 : decode cX11_of 140 = .ok (.ireturn, 1) := by decide +kernel
theorem dX11_of_141 : decode cX11_of 141 = .ok (.iconst (-1), 1) := by decide +kernel
theorem dX11_of_142 : decode cX11_of 142 = .ok (.ireturn, 1) := by decide +kernel
theorem dX11_onWay_0 : decode cX11_onWay 0 = .ok (.iload_n 1, 1) := by decide +kernel
theorem dX11_onWay_1 : decode cX11_onWay 1 = .ok (.istore_n 3, 1) := by decide +kernel
theorem dX11_onWay_2 : decode cX11_onWay 2 = .ok (.aload_n 0, 1) := by decide +kernel
theorem dX11_onWay_3 : decode cX11_onWay 3 = .ok (.getfield 49, 3) := by decide +kernel
theorem dX11_onWay_6 : decode cX11_onWay 6 = .ok (.iload_n 3, 1) := by decide +kernel
theorem dX11_onWay_7 : decode cX11_onWay 7 = .ok (.iaload, 1) := by decide +kernel
theorem dX11_onWay_8 : decode cX11_onWay 8 = .ok (.iload_n 2, 1) := by decide +kernel
theorem dX11_onWay_9 : decode cX11_onWay 9 = .ok (.iconst 1, 1) := by decide +kernel
theorem dX11_onWay_10 : decode cX11_onWay 10 = .ok (.iadd, 1) := by decide +kernel
theorem dX11_onWay_11 : decode cX11_onWay 11 = .ok (.if_icmp .le 13, 3) := by decide +kernel
theorem dX11_onWay_14 : decode cX11_onWay 14 = .ok (.aload_n 0, 1) := by decide +kernel
theorem dX11_onWay_15 : decode cX11_onWay 15 = .ok (.getfield 43, 3) := by decide +kernel
theorem dX11_onWay_18 : decode cX11_onWay 18 = .ok (.iload_n 3, 1) := by decide +kernel
theorem dX11_onWay_19 : decode cX11_onWay 19 = .ok (.iaload, 1) := by decide +kernel
theorem dX11_onWay_20 : decode cX11_onWay 20 = .ok (.istore_n 3, 1) := by decide +kernel
theorem dX11_onWay_21 : decode cX11_onWay 21 = .ok (.goto (-19), 3) := by decide +kernel
theorem dX11_onWay_24 : decode cX11_onWay 24 = .ok (.aload_n 0, 1) := by decide +kernel
theorem dX11_onWay_25 : decode cX11_onWay 25 = .ok (.getfield 46, 3) := by decide +kernel
theorem dX11_onWay_28 : decode cX11_onWay 28 = .ok (.iload_n 3, 1) := by decide +kernel
theorem dX11_onWay_29 : decode cX11_onWay 29 = .ok (.iaload, 1) := by decide +kernel
theorem dX11_onWay_30 : decode cX11_onWay 30 = .ok (.ireturn, 1) := by decide +kernel
theorem dX11_outcome_0 : decode cX11_outcome 0 = .ok (.iload_n 1, 1) := by decide +kernel
theorem dX11_outcome_1 : decode cX11_outcome 1 = .ok (.ifCond .lt 10, 3) := by decide +kernel
theorem dX11_outcome_4 : decode cX11_outcome 4 = .ok (.iload_n 2, 1) := by decide +kernel
theorem dX11_outcome_5 : decode cX11_outcome 5 = .ok (.invokestatic 76, 3) := by decide +kernel
theorem dX11_outcome_8 : decode cX11_outcome 8 = .ok (.ifCond .ne 6, 3) := by decide +kernel
theorem dX11_outcome_11 : decode cX11_outcome 11 = .ok (.bipush (-100), 2) := by decide +kernel
theorem dX11_outcome_13 : decode cX11_outcome 13 = .ok (.ireturn, 1) := by decide +kernel
theorem dX11_outcome_14 : decode cX11_outcome 14 = .ok (.aload_n 0, 1) := by decide +kernel
theorem dX11_outcome_15 : decode cX11_outcome 15 = .ok (.invokevirtual 252, 3) := by decide +kernel
theorem dX11_outcome_18 : decode cX11_outcome 18 = .ok (.aload_n 0, 1) := by decide +kernel
theorem dX11_outcome_19 : decode cX11_outcome 19 = .ok (.iload_n 1, 1) := by decide +kernel
theorem dX11_outcome_20 : decode cX11_outcome 20 = .ok (.invokevirtual 268, 3) := by decide +kernel
theorem dX11_outcome_23 : decode cX11_outcome 23 = .ok (.istore_n 3, 1) := by decide +kernel
theorem dX11_outcome_24 : decode cX11_outcome 24 = .ok (.iload_n 3, 1) := by decide +kernel
theorem dX11_outcome_25 : decode cX11_outcome 25 = .ok (.ifCond .ge 8, 3) := by decide +kernel
theorem dX11_outcome_28 : decode cX11_outcome 28 = .ok (.bipush (-100), 2) := by decide +kernel
theorem dX11_outcome_30 : decode cX11_outcome 30 = .ok (.goto 17, 3) := by decide +kernel
theorem dX11_outcome_33 : decode cX11_outcome 33 = .ok (.aload_n 0, 1) := by decide +kernel
theorem dX11_outcome_34 : decode cX11_outcome 34 = .ok (.getfield 40, 3) := by decide +kernel
theorem dX11_outcome_37 : decode cX11_outcome 37 = .ok (.bipush 52, 2) := by decide +kernel
theorem dX11_outcome_39 : decode cX11_outcome 39 = .ok (.iload_n 3, 1) := by decide +kernel
theorem dX11_outcome_40 : decode cX11_outcome 40 = .ok (.imul, 1) := by decide +kernel
theorem dX11_outcome_41 : decode cX11_outcome 41 = .ok (.bipush 48, 2) := by decide +kernel
theorem dX11_outcome_43 : decode cX11_outcome 43 = .ok (.iadd, 1) := by decide +kernel
theorem dX11_outcome_44 : decode cX11_outcome 44 = .ok (.iload_n 2, 1) := by decide +kernel
theorem dX11_outcome_45 : decode cX11_outcome 45 = .ok (.iadd, 1) := by decide +kernel
theorem dX11_outcome_46 : decode cX11_outcome 46 = .ok (.iaload, 1) := by decide +kernel
theorem dX11_outcome_47 : decode cX11_outcome 47 = .ok (.ireturn, 1) := by decide +kernel
theorem dX11_outcomeAt_0 : decode cX11_outcomeAt 0 = .ok (.iconst 0, 1) := by decide +kernel
theorem dX11_outcomeAt_1 : decode cX11_outcomeAt 1 = .ok (.istore_n 2, 1) := by decide +kernel
theorem dX11_outcomeAt_2 : decode cX11_outcomeAt 2 = .ok (.iconst 0, 1) := by decide +kernel
theorem dX11_outcomeAt_3 : decode cX11_outcomeAt 3 = .ok (.istore_n 3, 1) := by decide +kernel
theorem dX11_outcomeAt_4 : decode cX11_outcomeAt 4 = .ok (.iload_n 3, 1) := by decide +kernel
theorem dX11_outcomeAt_5 : decode cX11_outcomeAt 5 = .ok (.aload_n 0, 1) := by decide +kernel
theorem dX11_outcomeAt_6 : decode cX11_outcomeAt 6 = .ok (.getfield 231, 3) := by decide +kernel
theorem dX11_outcomeAt_9 : decode cX11_outcomeAt 9 = .ok (.if_icmp .ge 27, 3) := by decide +kernel
theorem dX11_outcomeAt_12 : decode cX11_outcomeAt 12 = .ok (.aload_n 0, 1) := by decide +kernel
theorem dX11_outcomeAt_13 : decode cX11_outcomeAt 13 = .ok (.iload_n 3, 1) := by decide +kernel
theorem dX11_outcomeAt_14 : decode cX11_outcomeAt 14 = .ok (.invokevirtual 247, 3) := by decide +kernel
theorem dX11_outcomeAt_17 : decode cX11_outcomeAt 17 = .ok (.ifCond .eq 13, 3) := by decide +kernel
theorem dX11_outcomeAt_20 : decode cX11_outcomeAt 20 = .ok (.iload_n 2, 1) := by decide +kernel
theorem dX11_outcomeAt_21 : decode cX11_outcomeAt 21 = .ok (.iload_n 1, 1) := by decide +kernel
theorem dX11_outcomeAt_22 : decode cX11_outcomeAt 22 = .ok (.if_icmp .ne 5, 3) := by decide +kernel
theorem dX11_outcomeAt_25 : decode cX11_outcomeAt 25 = .ok (.iload_n 3, 1) := by decide +kernel
theorem dX11_outcomeAt_26 : decode cX11_outcomeAt 26 = .ok (.ireturn, 1) := by decide +kernel
theorem dX11_outcomeAt_27 : decode cX11_outcomeAt 27 = .ok (.iinc 2 1, 3) := by decide +kernel
theorem dX11_outcomeAt_30 : decode cX11_outcomeAt 30 = .ok (.iinc 3 1, 3) := by decide +kernel
theorem dX11_outcomeAt_33 : decode cX11_outcomeAt 33 = .ok (.goto (-29), 3) := by decide +kernel
theorem dX11_outcomeAt_36 : decode cX11_outcomeAt 36 = .ok (.iconst (-1), 1) := by decide +kernel
theorem dX11_outcomeAt_37 : decode cX11_outcomeAt 37 = .ok (.iload_n 2, 1) := by decide +kernel
theorem dX11_outcomeAt_38 : decode cX11_outcomeAt 38 = .ok (.isub, 1) := by decide +kernel
theorem dX11_outcomeAt_39 : decode cX11_outcomeAt 39 = .ok (.ireturn, 1) := by decide +kernel
theorem dX11_ownedBy_0 : decode cX11_ownedBy 0 = .ok (.iconst 0, 1) := by decide +kernel
theorem dX11_ownedBy_1 : decode cX11_ownedBy 1 = .ok (.istore 4, 2) := by decide +kernel
theorem dX11_ownedBy_3 : decode cX11_ownedBy 3 = .ok (.iconst 0, 1) := by decide +kernel
theorem dX11_ownedBy_4 : decode cX11_ownedBy 4 = .ok (.istore 5, 2) := by decide +kernel
theorem dX11_ownedBy_6 : decode cX11_ownedBy 6 = .ok (.iload 5, 2) := by decide +kernel
theorem dX11_ownedBy_8 : decode cX11_ownedBy 8 = .ok (.iconst 3, 1) := by decide +kernel
theorem dX11_ownedBy_9 : decode cX11_ownedBy 9 = .ok (.if_icmp .ge 37, 3) := by decide +kernel
theorem dX11_ownedBy_12 : decode cX11_ownedBy 12 = .ok (.iload 4, 2) := by decide +kernel
theorem dX11_ownedBy_14 : decode cX11_ownedBy 14 = .ok (.aload_n 1, 1) := by decide +kernel
theorem dX11_ownedBy_15 : decode cX11_ownedBy 15 = .ok (.iload_n 2, 1) := by decide +kernel
theorem dX11_ownedBy_16 : decode cX11_ownedBy 16 = .ok (.bipush 12, 2) := by decide +kernel
theorem dX11_ownedBy_18 : decode cX11_ownedBy 18 = .ok (.iadd, 1) := by decide +kernel
theorem dX11_ownedBy_19 : decode cX11_ownedBy 19 = .ok (.iload 5, 2) := by decide +kernel
theorem dX11_ownedBy_21 : decode cX11_ownedBy 21 = .ok (.iadd, 1) := by decide +kernel
theorem dX11_ownedBy_22 : decode cX11_ownedBy 22 = .ok (.iaload, 1) := by decide +kernel
theorem dX11_ownedBy_23 : decode cX11_ownedBy 23 = .ok (.iload_n 3, 1) := by decide +kernel
theorem dX11_ownedBy_24 : decode cX11_ownedBy 24 = .ok (.iconst 1, 1) := by decide +kernel
theorem dX11_ownedBy_25 : decode cX11_ownedBy 25 = .ok (.iadd, 1) := by decide +kernel
theorem dX11_ownedBy_26 : decode cX11_ownedBy 26 = .ok (.if_icmp .ne 10, 3) := by decide +kernel
theorem dX11_ownedBy_29 : decode cX11_ownedBy 29 = .ok (.iconst 1, 1) := by decide +kernel
theorem dX11_ownedBy_30 : decode cX11_ownedBy 30 = .ok (.iload 5, 2) := by decide +kernel
theorem dX11_ownedBy_32 : decode cX11_ownedBy 32 = .ok (.ishl, 1) := by decide +kernel
theorem dX11_ownedBy_33 : decode cX11_ownedBy 33 = .ok (.goto 4, 3) := by decide +kernel
theorem dX11_ownedBy_36 : decode cX11_ownedBy 36 = .ok (.iconst 0, 1) := by decide +kernel
theorem dX11_ownedBy_37 : decode cX11_ownedBy 37 = .ok (.ior, 1) := by decide +kernel
theorem dX11_ownedBy_38 : decode cX11_ownedBy 38 = .ok (.istore 4, 2) := by decide +kernel
theorem dX11_ownedBy_40 : decode cX11_ownedBy 40 = .ok (.iinc 5 1, 3) := by decide +kernel
theorem dX11_ownedBy_43 : decode cX11_ownedBy 43 = .ok (.goto (-37), 3) := by decide +kernel
theorem dX11_ownedBy_46 : decode cX11_ownedBy 46 = .ok (.iload 4, 2) := by decide +kernel
theorem dX11_ownedBy_48 : decode cX11_ownedBy 48 = .ok (.ireturn, 1) := by decide +kernel
theorem dX11_program_0 : decode cX11_program 0 = .ok (.aload_n 0, 1) := by decide +kernel
theorem dX11_program_1 : decode cX11_program 1 = .ok (.iload_n 1, 1) := by decide +kernel
theorem dX11_program_2 : decode cX11_program 2 = .ok (.invokevirtual 133, 3) := by decide +kernel
theorem dX11_program_5 : decode cX11_program 5 = .ok (.ifCond .ne 5, 3) := by decide +kernel
theorem dX11_program_8 : decode cX11_program 8 = .ok (.iconst (-1), 1) := by decide +kernel
theorem dX11_program_9 : decode cX11_program 9 = .ok (.ireturn, 1) := by decide +kernel
theorem dX11_program_10 : decode cX11_program 10 = .ok (.aload_n 0, 1) := by decide +kernel
theorem dX11_program_11 : decode cX11_program 11 = .ok (.getfield 9, 3) := by decide +kernel
theorem dX11_program_14 : decode cX11_program 14 = .ok (.iload_n 1, 1) := by decide +kernel
end
section
theorem dX11_program_15 : decode cX11_program 15 = .ok (.iaload, 1) := by decide +kernel
theorem dX11_program_16 : decode cX11_program 16 = .ok (.ifCond .ne 14, 3) := by decide +kernel
theorem dX11_program_19 : decode cX11_program 19 = .ok (.aload_n 0, 1) := by decide +kernel
theorem dX11_program_20 : decode cX11_program 20 = .ok (.getfield 9, 3) := by decide +kernel
theorem dX11_program_23 : decode cX11_program 23 = .ok (.iconst 4, 1) := by decide +kernel
theorem dX11_program_24 : decode cX11_program 24 = .ok (.iload_n 1, 1) := by decide +kernel
theorem dX11_program_25 : decode cX11_program 25 = .ok (.iadd, 1) := by decide +kernel
theorem dX11_program_26 : decode cX11_program 26 = .ok (.iaload, 1) := by decide +kernel
theorem dX11_program_27 : decode cX11_program 27 = .ok (.ifCond .eq 6, 3) := by decide +kernel
theorem dX11_program_30 : decode cX11_program 30 = .ok (.bipush (-3), 2) := by decide +kernel
theorem dX11_program_32 : decode cX11_program 32 = .ok (.ireturn, 1) := by decide +kernel
theorem dX11_program_33 : decode cX11_program 33 = .ok (.aload_n 0, 1) := by decide +kernel
theorem dX11_program_34 : decode cX11_program 34 = .ok (.iconst 0, 1) := by decide +kernel
theorem dX11_program_35 : decode cX11_program 35 = .ok (.putfield 89, 3) := by decide +kernel
theorem dX11_program_38 : decode cX11_program 38 = .ok (.aload_n 0, 1) := by decide +kernel
theorem dX11_program_39 : decode cX11_program 39 = .ok (.iconst (-1), 1) := by decide +kernel
theorem dX11_program_40 : decode cX11_program 40 = .ok (.putfield 92, 3) := by decide +kernel
theorem dX11_program_43 : decode cX11_program 43 = .ok (.aload_n 0, 1) := by decide +kernel
theorem dX11_program_44 : decode cX11_program 44 = .ok (.iconst 0, 1) := by decide +kernel
theorem dX11_program_45 : decode cX11_program 45 = .ok (.putfield 136, 3) := by decide +kernel
theorem dX11_program_48 : decode cX11_program 48 = .ok (.iconst 1, 1) := by decide +kernel
theorem dX11_program_49 : decode cX11_program 49 = .ok (.istore_n 2, 1) := by decide +kernel
theorem dX11_program_50 : decode cX11_program 50 = .ok (.iload_n 2, 1) := by decide +kernel
theorem dX11_program_51 : decode cX11_program 51 = .ok (.ifCond .eq 91, 3) := by decide +kernel
theorem dX11_program_54 : decode cX11_program 54 = .ok (.aload_n 0, 1) := by decide +kernel
theorem dX11_program_55 : decode cX11_program 55 = .ok (.getfield 92, 3) := by decide +kernel
theorem dX11_program_58 : decode cX11_program 58 = .ok (.ifCond .ge 84, 3) := by decide +kernel
theorem dX11_program_61 : decode cX11_program 61 = .ok (.aload_n 0, 1) := by decide +kernel
theorem dX11_program_62 : decode cX11_program 62 = .ok (.aload_n 0, 1) := by decide +kernel
theorem dX11_program_63 : decode cX11_program 63 = .ok (.getfield 136, 3) := by decide +kernel
theorem dX11_program_66 : decode cX11_program 66 = .ok (.invokevirtual 139, 3) := by decide +kernel
theorem dX11_program_69 : decode cX11_program 69 = .ok (.aload_n 0, 1) := by decide +kernel
theorem dX11_program_70 : decode cX11_program 70 = .ok (.dup, 1) := by decide +kernel
theorem dX11_program_71 : decode cX11_program 71 = .ok (.getfield 136, 3) := by decide +kernel
theorem dX11_program_74 : decode cX11_program 74 = .ok (.aload_n 0, 1) := by decide +kernel
theorem dX11_program_75 : decode cX11_program 75 = .ok (.getfield 92, 3) := by decide +kernel
theorem dX11_program_78 : decode cX11_program 78 = .ok (.ifCond .ge 7, 3) := by decide +kernel
theorem dX11_program_81 : decode cX11_program 81 = .ok (.iconst 1, 1) := by decide +kernel
theorem dX11_program_82 : decode cX11_program 82 = .ok (.goto 4, 3) := by decide +kernel
theorem dX11_program_85 : decode cX11_program 85 = .ok (.iconst 0, 1) := by decide +kernel
theorem dX11_program_86 : decode cX11_program 86 = .ok (.iadd, 1) := by decide +kernel
theorem dX11_program_87 : decode cX11_program 87 = .ok (.putfield 136, 3) := by decide +kernel
theorem dX11_program_90 : decode cX11_program 90 = .ok (.aload_n 0, 1) := by decide +kernel
theorem dX11_program_91 : decode cX11_program 91 = .ok (.getfield 92, 3) := by decide +kernel
theorem dX11_program_94 : decode cX11_program 94 = .ok (.ifCond .ge 25, 3) := by decide +kernel
theorem dX11_program_97 : decode cX11_program 97 = .ok (.aload_n 0, 1) := by decide +kernel
theorem dX11_program_98 : decode cX11_program 98 = .ok (.invokevirtual 95, 3) := by decide +kernel
theorem dX11_program_101 : decode cX11_program 101 = .ok (.bipush 59, 2) := by decide +kernel
theorem dX11_program_103 : decode cX11_program 103 = .ok (.if_icmp .ne 16, 3) := by decide +kernel
theorem dX11_program_106 : decode cX11_program 106 = .ok (.aload_n 0, 1) := by decide +kernel
theorem dX11_program_107 : decode cX11_program 107 = .ok (.getfield 136, 3) := by decide +kernel
theorem dX11_program_110 : decode cX11_program 110 = .ok (.bipush 12, 2) := by decide +kernel
theorem dX11_program_112 : decode cX11_program 112 = .ok (.if_icmp .ge 7, 3) := by decide +kernel
theorem dX11_program_115 : decode cX11_program 115 = .ok (.iconst 1, 1) := by decide +kernel
theorem dX11_program_116 : decode cX11_program 116 = .ok (.goto 4, 3) := by decide +kernel
theorem dX11_program_119 : decode cX11_program 119 = .ok (.iconst 0, 1) := by decide +kernel
theorem dX11_program_120 : decode cX11_program 120 = .ok (.istore_n 2, 1) := by decide +kernel
theorem dX11_program_121 : decode cX11_program 121 = .ok (.aload_n 0, 1) := by decide +kernel
theorem dX11_program_122 : decode cX11_program 122 = .ok (.dup, 1) := by decide +kernel
theorem dX11_program_123 : decode cX11_program 123 = .ok (.getfield 89, 3) := by decide +kernel
theorem dX11_program_126 : decode cX11_program 126 = .ok (.iload_n 2, 1) := by decide +kernel
theorem dX11_program_127 : decode cX11_program 127 = .ok (.ifCond .eq 7, 3) := by decide +kernel
theorem dX11_program_130 : decode cX11_program 130 = .ok (.iconst 1, 1) := by decide +kernel
theorem dX11_program_131 : decode cX11_program 131 = .ok (.goto 4, 3) := by decide +kernel
theorem dX11_program_134 : decode cX11_program 134 = .ok (.iconst 0, 1) := by decide +kernel
theorem dX11_program_135 : decode cX11_program 135 = .ok (.iadd, 1) := by decide +kernel
theorem dX11_program_136 : decode cX11_program 136 = .ok (.putfield 89, 3) := by decide +kernel
theorem dX11_program_139 : decode cX11_program 139 = .ok (.goto (-89), 3) := by decide +kernel
theorem dX11_program_142 : decode cX11_program 142 = .ok (.aload_n 0, 1) := by decide +kernel
theorem dX11_program_143 : decode cX11_program 143 = .ok (.aload_n 0, 1) := by decide +kernel
theorem dX11_program_144 : decode cX11_program 144 = .ok (.getfield 89, 3) := by decide +kernel
theorem dX11_program_147 : decode cX11_program 147 = .ok (.aload_n 0, 1) := by decide +kernel
theorem dX11_program_148 : decode cX11_program 148 = .ok (.getfield 85, 3) := by decide +kernel
theorem dX11_program_151 : decode cX11_program 151 = .ok (.if_icmp .lt 7, 3) := by decide +kernel
theorem dX11_program_154 : decode cX11_program 154 = .ok (.iconst 1, 1) := by decide +kernel
theorem dX11_program_155 : decode cX11_program 155 = .ok (.goto 4, 3) := by decide +kernel
theorem dX11_program_158 : decode cX11_program 158 = .ok (.iconst 0, 1) := by decide +kernel
theorem dX11_program_159 : decode cX11_program 159 = .ok (.aload_n 0, 1) := by decide +kernel
theorem dX11_program_160 : decode cX11_program 160 = .ok (.getfield 89, 3) := by decide +kernel
theorem dX11_program_163 : decode cX11_program 163 = .ok (.invokevirtual 99, 3) := by decide +kernel
theorem dX11_program_166 : decode cX11_program 166 = .ok (.aload_n 0, 1) := by decide +kernel
theorem dX11_program_167 : decode cX11_program 167 = .ok (.iconst 0, 1) := by decide +kernel
theorem dX11_program_168 : decode cX11_program 168 = .ok (.putfield 85, 3) := by decide +kernel
theorem dX11_program_171 : decode cX11_program 171 = .ok (.aload_n 0, 1) := by decide +kernel
theorem dX11_program_172 : decode cX11_program 172 = .ok (.getfield 92, 3) := by decide +kernel
theorem dX11_program_175 : decode cX11_program 175 = .ok (.ifCond .lt 26, 3) := by decide +kernel
theorem dX11_program_178 : decode cX11_program 178 = .ok (.aload_n 0, 1) := by decide +kernel
theorem dX11_program_179 : decode cX11_program 179 = .ok (.iconst 1, 1) := by decide +kernel
theorem dX11_program_180 : decode cX11_program 180 = .ok (.iload_n 1, 1) := by decide +kernel
theorem dX11_program_181 : decode cX11_program 181 = .ok (.aload_n 0, 1) := by decide +kernel
theorem dX11_program_182 : decode cX11_program 182 = .ok (.getfield 136, 3) := by decide +kernel
theorem dX11_program_185 : decode cX11_program 185 = .ok (.iconst 3, 1) := by decide +kernel
theorem dX11_program_186 : decode cX11_program 186 = .ok (.aload_n 0, 1) := by decide +kernel
theorem dX11_program_187 : decode cX11_program 187 = .ok (.getfield 92, 3) := by decide +kernel
theorem dX11_program_190 : decode cX11_program 190 = .ok (.invokevirtual 142, 3) := by decide +kernel
theorem dX11_program_193 : decode cX11_program 193 = .ok (.bipush (-100), 2) := by decide +kernel
theorem dX11_program_195 : decode cX11_program 195 = .ok (.aload_n 0, 1) := by decide +kernel
theorem dX11_program_196 : decode cX11_program 196 = .ok (.getfield 92, 3) := by decide +kernel
theorem dX11_program_199 : decode cX11_program 199 = .ok (.isub, 1) := by decide +kernel
theorem dX11_program_200 : decode cX11_program 200 = .ok (.ireturn, 1) := by decide +kernel
theorem dX11_program_201 : decode cX11_program 201 = .ok (.aload_n 0, 1) := by decide +kernel
theorem dX11_program_202 : decode cX11_program 202 = .ok (.getfield 9, 3) := by decide +kernel
theorem dX11_program_205 : decode cX11_program 205 = .ok (.bipush 57, 2) := by decide +kernel
theorem dX11_program_207 : decode cX11_program 207 = .ok (.iload_n 1, 1) := by decide +kernel
theorem dX11_program_208 : decode cX11_program 208 = .ok (.iadd, 1) := by decide +kernel
theorem dX11_program_209 : decode cX11_program 209 = .ok (.aload_n 0, 1) := by decide +kernel
theorem dX11_program_210 : decode cX11_program 210 = .ok (.getfield 136, 3) := by decide +kernel
theorem dX11_program_213 : decode cX11_program 213 = .ok (.iastore, 1) := by decide +kernel
theorem dX11_program_214 : decode cX11_program 214 = .ok (.aload_n 0, 1) := by decide +kernel
theorem dX11_program_215 : decode cX11_program 215 = .ok (.getfield 28, 3) := by decide +kernel
theorem dX11_program_218 : decode cX11_program 218 = .ok (.iconst 0, 1) := by decide +kernel
theorem dX11_program_219 : decode cX11_program 219 = .ok (.aload_n 0, 1) := by decide +kernel
theorem dX11_program_220 : decode cX11_program 220 = .ok (.getfield 9, 3) := by decide +kernel
theorem dX11_program_223 : decode cX11_program 223 = .ok (.bipush 61, 2) := by decide +kernel
theorem dX11_program_225 : decode cX11_program 225 = .ok (.bipush 48, 2) := by decide +kernel
theorem dX11_program_227 : decode cX11_program 227 = .ok (.iload_n 1, 1) := by decide +kernel
theorem dX11_program_228 : decode cX11_program 228 = .ok (.imul, 1) := by decide +kernel
theorem dX11_program_229 : decode cX11_program 229 = .ok (.iadd, 1) := by decide +kernel
theorem dX11_program_230 : decode cX11_program 230 = .ok (.iconst 4, 1) := by decide +kernel
theorem dX11_program_231 : decode cX11_program 231 = .ok (.aload_n 0, 1) := by decide +kernel
theorem dX11_program_232 : decode cX11_program 232 = .ok (.getfield 136, 3) := by decide +kernel
theorem dX11_program_235 : decode cX11_program 235 = .ok (.imul, 1) := by decide +kernel
theorem dX11_program_236 : decode cX11_program 236 = .ok (.invokestatic 146, 3) := by decide +kernel
theorem dX11_program_239 : decode cX11_program 239 = .ok (.aload_n 0, 1) := by decide +kernel
theorem dX11_program_240 : decode cX11_program 240 = .ok (.getfield 136, 3) := by decide +kernel
theorem dX11_program_243 : decode cX11_program 243 = .ok (.ireturn, 1) := by decide +kernel
theorem dX11_put_0 : decode cX11_put 0 = .ok (.iload_n 1, 1) := by decide +kernel
theorem dX11_put_1 : decode cX11_put 1 = .ok (.invokestatic 76, 3) := by decide +kernel
theorem dX11_put_4 : decode cX11_put 4 = .ok (.ifCond .eq 17, 3) := by decide +kernel
theorem dX11_put_7 : decode cX11_put 7 = .ok (.iload_n 2, 1) := by decide +kernel
theorem dX11_put_8 : decode cX11_put 8 = .ok (.i2l, 1) := by decide +kernel
theorem dX11_put_9 : decode cX11_put 9 = .ok (.ldc2_w 79, 3) := by decide +kernel
theorem dX11_put_12 : decode cX11_put 12 = .ok (.ldc2_w 81, 3) := by decide +kernel
theorem dX11_put_15 : decode cX11_put 15 = .ok (.invokestatic 64, 3) := by decide +kernel
theorem dX11_put_18 : decode cX11_put 18 = .ok (.ifCond .ne 6, 3) := by decide +kernel
theorem dX11_put_21 : decode cX11_put 21 = .ok (.bipush (-100), 2) := by decide +kernel
theorem dX11_put_23 : decode cX11_put 23 = .ok (.ireturn, 1) := by decide +kernel
theorem dX11_put_24 : decode cX11_put 24 = .ok (.aload_n 0, 1) := by decide +kernel
theorem dX11_put_25 : decode cX11_put 25 = .ok (.getfield 9, 3) := by decide +kernel
theorem dX11_put_28 : decode cX11_put 28 = .ok (.bipush 48, 2) := by decide +kernel
theorem dX11_put_30 : decode cX11_put 30 = .ok (.iload_n 1, 1) := by decide +kernel
theorem dX11_put_31 : decode cX11_put 31 = .ok (.iadd, 1) := by decide +kernel
theorem dX11_put_32 : decode cX11_put 32 = .ok (.iaload, 1) := by decide +kernel
theorem dX11_put_33 : decode cX11_put 33 = .ok (.istore_n 3, 1) := by decide +kernel
theorem dX11_put_34 : decode cX11_put 34 = .ok (.aload_n 0, 1) := by decide +kernel
theorem dX11_put_35 : decode cX11_put 35 = .ok (.getfield 9, 3) := by decide +kernel
theorem dX11_put_38 : decode cX11_put 38 = .ok (.bipush 48, 2) := by decide +kernel
theorem dX11_put_40 : decode cX11_put 40 = .ok (.iload_n 1, 1) := by decide +kernel
theorem dX11_put_41 : decode cX11_put 41 = .ok (.iadd, 1) := by decide +kernel
theorem dX11_put_42 : decode cX11_put 42 = .ok (.iload_n 2, 1) := by decide +kernel
theorem dX11_put_43 : decode cX11_put 43 = .ok (.iastore, 1) := by decide +kernel
theorem dX11_put_44 : decode cX11_put 44 = .ok (.iload_n 3, 1) := by decide +kernel
theorem dX11_put_45 : decode cX11_put 45 = .ok (.ireturn, 1) := by decide +kernel
theorem dX11_restart_0 : decode cX11_restart 0 = .ok (.iconst 0, 1) := by decide +kernel
theorem dX11_restart_1 : decode cX11_restart 1 = .ok (.istore_n 1, 1) := by decide +kernel
theorem dX11_restart_2 : decode cX11_restart 2 = .ok (.iload_n 1, 1) := by decide +kernel
theorem dX11_restart_3 : decode cX11_restart 3 = .ok (.bipush 52, 2) := by decide +kernel
theorem dX11_restart_5 : decode cX11_restart 5 = .ok (.if_icmp .ge 16, 3) := by decide +kernel
theorem dX11_restart_8 : decode cX11_restart 8 = .ok (.aload_n 0, 1) := by decide +kernel
theorem dX11_restart_9 : decode cX11_restart 9 = .ok (.getfield 9, 3) := by decide +kernel
theorem dX11_restart_12 : decode cX11_restart 12 = .ok (.iload_n 1, 1) := by decide +kernel
theorem dX11_restart_13 : decode cX11_restart 13 = .ok (.iconst 0, 1) := by decide +kernel
theorem dX11_restart_14 : decode cX11_restart 14 = .ok (.iastore, 1) := by decide +kernel
theorem dX11_restart_15 : decode cX11_restart 15 = .ok (.iinc 1 1, 3) := by decide +kernel
theorem dX11_restart_18 : decode cX11_restart 18 = .ok (.goto (-16), 3) := by decide +kernel
theorem dX11_restart_21 : decode cX11_restart 21 = .ok (.aload_n 0, 1) := by decide +kernel
theorem dX11_restart_22 : decode cX11_restart 22 = .ok (.getfield 9, 3) := by decide +kernel
theorem dX11_restart_25 : decode cX11_restart 25 = .ok (.bipush 56, 2) := by decide +kernel
theorem dX11_restart_27 : decode cX11_restart 27 = .ok (.bipush (-5), 2) := by decide +kernel
theorem dX11_restart_29 : decode cX11_restart 29 = .ok (.iastore, 1) := by decide +kernel
theorem dX11_restart_30 : decode cX11_restart 30 = .ok (.aload_n 0, 1) := by decide +kernel
theorem dX11_restart_31 : decode cX11_restart 31 = .ok (.getfield 9, 3) := by decide +kernel
theorem dX11_restart_34 : decode cX11_restart 34 = .ok (.bipush 52, 2) := by decide +kernel
theorem dX11_restart_36 : decode cX11_restart 36 = .ok (.iaload, 1) := by decide +kernel
theorem dX11_restart_37 : decode cX11_restart 37 = .ok (.ireturn, 1) := by decide +kernel
theorem dX11_round_0 : decode cX11_round 0 = .ok (.aload_n 0, 1) := by decide +kernel
theorem dX11_round_1 : decode cX11_round 1 = .ok (.invokevirtual 252, 3) := by decide +kernel
theorem dX11_round_4 : decode cX11_round 4 = .ok (.iconst 0, 1) := by decide +kernel
theorem dX11_round_5 : decode cX11_round 5 = .ok (.istore_n 1, 1) := by decide +kernel
theorem dX11_round_6 : decode cX11_round 6 = .ok (.iconst 0, 1) := by decide +kernel
theorem dX11_round_7 : decode cX11_round 7 = .ok (.istore_n 2, 1) := by decide +kernel
theorem dX11_round_8 : decode cX11_round 8 = .ok (.iload_n 2, 1) := by decide +kernel
theorem dX11_round_9 : decode cX11_round 9 = .ok (.iconst 3, 1) := by decide +kernel
theorem dX11_round_10 : decode cX11_round 10 = .ok (.if_icmp .ge 81, 3) := by decide +kernel
theorem dX11_round_13 : decode cX11_round 13 = .ok (.aload_n 0, 1) := by decide +kernel
theorem dX11_round_14 : decode cX11_round 14 = .ok (.iload_n 2, 1) := by decide +kernel
theorem dX11_round_15 : decode cX11_round 15 = .ok (.invokevirtual 285, 3) := by decide +kernel
theorem dX11_round_18 : decode cX11_round 18 = .ok (.istore_n 3, 1) := by decide +kernel
theorem dX11_round_19 : decode cX11_round 19 = .ok (.iconst 0, 1) := by decide +kernel
theorem dX11_round_20 : decode cX11_round 20 = .ok (.istore 4, 2) := by decide +kernel
theorem dX11_round_22 : decode cX11_round 22 = .ok (.iload 4, 2) := by decide +kernel
theorem dX11_round_24 : decode cX11_round 24 = .ok (.iconst 3, 1) := by decide +kernel
theorem dX11_round_25 : decode cX11_round 25 = .ok (.if_icmp .ge 46, 3) := by decide +kernel
theorem dX11_round_28 : decode cX11_round 28 = .ok (.iconst 0, 1) := by decide +kernel
theorem dX11_round_29 : decode cX11_round 29 = .ok (.istore 5, 2) := by decide +kernel
theorem dX11_round_31 : decode cX11_round 31 = .ok (.iload 5, 2) := by decide +kernel
theorem dX11_round_33 : decode cX11_round 33 = .ok (.iconst 3, 1) := by decide +kernel
theorem dX11_round_34 : decode cX11_round 34 = .ok (.if_icmp .ge 31, 3) := by decide +kernel
theorem dX11_round_37 : decode cX11_round 37 = .ok (.iload_n 3, 1) := by decide +kernel
theorem dX11_round_38 : decode cX11_round 38 = .ok (.iload_n 3, 1) := by decide +kernel
theorem dX11_round_39 : decode cX11_round 39 = .ok (.iload 5, 2) := by decide +kernel
theorem dX11_round_41 : decode cX11_round 41 = .ok (.invokestatic 282, 3) := by decide +kernel
theorem dX11_round_44 : decode cX11_round 44 = .ok (.ifCond .eq 12, 3) := by decide +kernel
theorem dX11_round_47 : decode cX11_round 47 = .ok (.aload_n 0, 1) := by decide +kernel
theorem dX11_round_48 : decode cX11_round 48 = .ok (.iload 5, 2) := by decide +kernel
theorem dX11_round_50 : decode cX11_round 50 = .ok (.invokevirtual 285, 3) := by decide +kernel
theorem dX11_round_53 : decode cX11_round 53 = .ok (.goto 4, 3) := by decide +kernel
theorem dX11_round_56 : decode cX11_round 56 = .ok (.iconst 0, 1) := by decide +kernel
theorem dX11_round_57 : decode cX11_round 57 = .ok (.ior, 1) := by decide +kernel
theorem dX11_round_58 : decode cX11_round 58 = .ok (.istore_n 3, 1) := by decide +kernel
theorem dX11_round_59 : decode cX11_round 59 = .ok (.iinc 5 1, 3) := by decide +kernel
theorem dX11_round_62 : decode cX11_round 62 = .ok (.goto (-31), 3) := by decide +kernel
theorem dX11_round_65 : decode cX11_round 65 = .ok (.iinc 4 1, 3) := by decide +kernel
theorem dX11_round_68 : decode cX11_round 68 = .ok (.goto (-46), 3) := by decide +kernel
theorem dX11_round_71 : decode cX11_round 71 = .ok (.iload_n 3, 1) := by decide +kernel
theorem dX11_round_72 : decode cX11_round 72 = .ok (.iload_n 2, 1) := by decide +kernel
theorem dX11_round_73 : decode cX11_round 73 = .ok (.invokestatic 282, 3) := by decide +kernel
theorem dX11_round_76 : decode cX11_round 76 = .ok (.ifCond .eq 7, 3) := by decide +kernel
theorem dX11_round_79 : decode cX11_round 79 = .ok (.iconst 1, 1) := by decide +kernel
theorem dX11_round_80 : decode cX11_round 80 = .ok (.goto 4, 3) := by decide +kernel
theorem dX11_round_83 : decode cX11_round 83 = .ok (.iload_n 1, 1) := by decide +kernel
theorem dX11_round_84 : decode cX11_round 84 = .ok (.istore_n 1, 1) := by decide +kernel
theorem dX11_round_85 : decode cX11_round 85 = .ok (.iinc 2 1, 3) := by decide +kernel
theorem dX11_round_88 : decode cX11_round 88 = .ok (.goto (-80), 3) := by decide +kernel
theorem dX11_round_91 : decode cX11_round 91 = .ok (.iload_n 1, 1) := by decide +kernel
theorem dX11_round_92 : decode cX11_round 92 = .ok (.ireturn, 1) := by decide +kernel
theorem dX11_run_0 : decode cX11_run 0 = .ok (.iload_n 1, 1) := by decide +kernel
theorem dX11_run_1 : decode cX11_run 1 = .ok (.i2l, 1) := by decide +kernel
theorem dX11_run_2 : decode cX11_run 2 = .ok (.lconst 0, 1) := by decide +kernel
theorem dX11_run_3 : decode cX11_run 3 = .ok (.ldc2_w 68, 3) := by decide +kernel
theorem dX11_run_6 : decode cX11_run 6 = .ok (.invokestatic 64, 3) := by decide +kernel
theorem dX11_run_9 : decode cX11_run 9 = .ok (.ifCond .ne 5, 3) := by decide +kernel
theorem dX11_run_12 : decode cX11_run 12 = .ok (.iconst (-1), 1) := by decide +kernel
theorem dX11_run_13 : decode cX11_run 13 = .ok (.ireturn, 1) := by decide +kernel
theorem dX11_run_14 : decode cX11_run 14 = .ok (.iload_n 2, 1) := by decide +kernel
theorem dX11_run_15 : decode cX11_run 15 = .ok (.i2l, 1) := by decide +kernel
theorem dX11_run_16 : decode cX11_run 16 = .ok (.lconst 0, 1) := by decide +kernel
theorem dX11_run_17 : decode cX11_run 17 = .ok (.ldc2_w 197, 3) := by decide +kernel
theorem dX11_run_20 : decode cX11_run 20 = .ok (.invokestatic 64, 3) := by decide +kernel
theorem dX11_run_23 : decode cX11_run 23 = .ok (.ifCond .ne 6, 3) := by decide +kernel
theorem dX11_run_26 : decode cX11_run 26 = .ok (.bipush (-2), 2) := by decide +kernel
theorem dX11_run_28 : decode cX11_run 28 = .ok (.ireturn, 1) := by decide +kernel
theorem dX11_run_29 : decode cX11_run 29 = .ok (.iconst 0, 1) := by decide +kernel
theorem dX11_run_30 : decode cX11_run 30 = .ok (.istore_n 3, 1) := by decide +kernel
theorem dX11_run_31 : decode cX11_run 31 = .ok (.iload_n 3, 1) := by decide +kernel
theorem dX11_run_32 : decode cX11_run 32 = .ok (.iload_n 2, 1) := by decide +kernel
theorem dX11_run_33 : decode cX11_run 33 = .ok (.if_icmp .ge 26, 3) := by decide +kernel
theorem dX11_run_36 : decode cX11_run 36 = .ok (.aload_n 0, 1) := by decide +kernel
theorem dX11_run_37 : decode cX11_run 37 = .ok (.iload_n 1, 1) := by decide +kernel
theorem dX11_run_38 : decode cX11_run 38 = .ok (.invokevirtual 199, 3) := by decide +kernel
theorem dX11_run_41 : decode cX11_run 41 = .ok (.ifCond .lt 18, 3) := by decide +kernel
theorem dX11_run_44 : decode cX11_run 44 = .ok (.aload_n 0, 1) := by decide +kernel
theorem dX11_run_45 : decode cX11_run 45 = .ok (.aload_n 0, 1) := by decide +kernel
theorem dX11_run_46 : decode cX11_run 46 = .ok (.iload_n 1, 1) := by decide +kernel
theorem dX11_run_47 : decode cX11_run 47 = .ok (.invokevirtual 199, 3) := by decide +kernel
theorem dX11_run_50 : decode cX11_run 50 = .ok (.invokevirtual 194, 3) := by decide +kernel
theorem dX11_run_53 : decode cX11_run 53 = .ok (.iinc 3 1, 3) := by decide +kernel
theorem dX11_run_56 : decode cX11_run 56 = .ok (.goto (-25), 3) := by decide +kernel
theorem dX11_run_59 : decode cX11_run 59 = .ok (.iload_n 3, 1) := by decide +kernel
theorem dX11_run_60 : decode cX11_run 60 = .ok (.ireturn, 1) := by decide +kernel
theorem dX11_schedule_0 : decode cX11_schedule 0 = .ok (.iload_n 1, 1) := by decide +kernel
theorem dX11_schedule_1 : decode cX11_schedule 1 = .ok (.i2l, 1) := by decide +kernel
theorem dX11_schedule_2 : decode cX11_schedule 2 = .ok (.lconst 0, 1) := by decide +kernel
theorem dX11_schedule_3 : decode cX11_schedule 3 = .ok (.lconst 1, 1) := by decide +kernel
theorem dX11_schedule_4 : decode cX11_schedule 4 = .ok (.invokestatic 64, 3) := by decide +kernel
theorem dX11_schedule_7 : decode cX11_schedule 7 = .ok (.ifCond .eq 11, 3) := by decide +kernel
theorem dX11_schedule_10 : decode cX11_schedule 10 = .ok (.aload_n 0, 1) := by decide +kernel
theorem dX11_schedule_11 : decode cX11_schedule 11 = .ok (.iload_n 1, 1) := by decide +kernel
theorem dX11_schedule_12 : decode cX11_schedule 12 = .ok (.invokevirtual 275, 3) := by decide +kernel
theorem dX11_schedule_15 : decode cX11_schedule 15 = .ok (.goto 4, 3) := by decide +kernel
theorem dX11_schedule_18 : decode cX11_schedule 18 = .ok (.iconst (-1), 1) := by decide +kernel
theorem dX11_schedule_19 : decode cX11_schedule 19 = .ok (.istore_n 3, 1) := by decide +kernel
theorem dX11_schedule_20 : decode cX11_schedule 20 = .ok (.iload_n 3, 1) := by decide +kernel
theorem dX11_schedule_21 : decode cX11_schedule 21 = .ok (.ifCond .lt 21, 3) := by decide +kernel
theorem dX11_schedule_24 : decode cX11_schedule 24 = .ok (.iload_n 2, 1) := by decide +kernel
theorem dX11_schedule_25 : decode cX11_schedule 25 = .ok (.i2l, 1) := by decide +kernel
theorem dX11_schedule_26 : decode cX11_schedule 26 = .ok (.lconst 0, 1) := by decide +kernel
theorem dX11_schedule_27 : decode cX11_schedule 27 = .ok (.aload_n 0, 1) := by decide +kernel
theorem dX11_schedule_28 : decode cX11_schedule 28 = .ok (.getfield 49, 3) := by decide +kernel
theorem dX11_schedule_31 : decode cX11_schedule 31 = .ok (.iload_n 3, 1) := by decide +kernel
theorem dX11_schedule_32 : decode cX11_schedule 32 = .ok (.iaload, 1) := by decide +kernel
theorem dX11_schedule_33 : decode cX11_schedule 33 = .ok (.iconst 1, 1) := by decide +kernel
theorem dX11_schedule_34 : decode cX11_schedule 34 = .ok (.isub, 1) := by decide +kernel
theorem dX11_schedule_35 : decode cX11_schedule 35 = .ok (.i2l, 1) := by decide +kernel
theorem dX11_schedule_36 : decode cX11_schedule 36 = .ok (.invokestatic 64, 3) := by decide +kernel
theorem dX11_schedule_39 : decode cX11_schedule 39 = .ok (.ifCond .ne 7, 3) := by decide +kernel
theorem dX11_schedule_42 : decode cX11_schedule 42 = .ok (.iconst (-1), 1) := by decide +kernel
theorem dX11_schedule_43 : decode cX11_schedule 43 = .ok (.goto 9, 3) := by decide +kernel
theorem dX11_schedule_46 : decode cX11_schedule 46 = .ok (.aload_n 0, 1) := by decide +kernel
theorem dX11_schedule_47 : decode cX11_schedule 47 = .ok (.iload_n 3, 1) := by decide +kernel
theorem dX11_schedule_48 : decode cX11_schedule 48 = .ok (.iload_n 2, 1) := by decide +kernel
theorem dX11_schedule_49 : decode cX11_schedule 49 = .ok (.invokevirtual 278, 3) := by decide +kernel
theorem dX11_schedule_52 : decode cX11_schedule 52 = .ok (.ireturn, 1) := by decide +kernel
theorem dX11_set_0 : decode cX11_set 0 = .ok (.iload_n 1, 1) := by decide +kernel
theorem dX11_set_1 : decode cX11_set 1 = .ok (.invokestatic 203, 3) := by decide +kernel
theorem dX11_set_4 : decode cX11_set 4 = .ok (.ifCond .ne 5, 3) := by decide +kernel
theorem dX11_set_7 : decode cX11_set 7 = .ok (.iconst (-1), 1) := by decide +kernel
theorem dX11_set_8 : decode cX11_set 8 = .ok (.ireturn, 1) := by decide +kernel
theorem dX11_set_9 : decode cX11_set 9 = .ok (.aload_n 0, 1) := by decide +kernel
theorem dX11_set_10 : decode cX11_set 10 = .ok (.getfield 58, 3) := by decide +kernel
theorem dX11_set_13 : decode cX11_set 13 = .ok (.iload_n 1, 1) := by decide +kernel
theorem dX11_set_14 : decode cX11_set 14 = .ok (.iaload, 1) := by decide +kernel
theorem dX11_set_15 : decode cX11_set 15 = .ok (.ifCond .ge 6, 3) := by decide +kernel
theorem dX11_set_18 : decode cX11_set 18 = .ok (.bipush (-11), 2) := by decide +kernel
theorem dX11_set_20 : decode cX11_set 20 = .ok (.ireturn, 1) := by decide +kernel
theorem dX11_set_21 : decode cX11_set 21 = .ok (.iload_n 2, 1) := by decide +kernel
theorem dX11_set_22 : decode cX11_set 22 = .ok (.i2l, 1) := by decide +kernel
theorem dX11_set_23 : decode cX11_set 23 = .ok (.lconst 0, 1) := by decide +kernel
theorem dX11_set_24 : decode cX11_set 24 = .ok (.aload_n 0, 1) := by decide +kernel
theorem dX11_set_25 : decode cX11_set 25 = .ok (.getfield 58, 3) := by decide +kernel
theorem dX11_set_28 : decode cX11_set 28 = .ok (.iload_n 1, 1) := by decide +kernel
theorem dX11_set_29 : decode cX11_set 29 = .ok (.iaload, 1) := by decide +kernel
theorem dX11_set_30 : decode cX11_set 30 = .ok (.iconst 1, 1) := by decide +kernel
theorem dX11_set_31 : decode cX11_set 31 = .ok (.isub, 1) := by decide +kernel
theorem dX11_set_32 : decode cX11_set 32 = .ok (.i2l, 1) := by decide +kernel
theorem dX11_set_33 : decode cX11_set 33 = .ok (.invokestatic 64, 3) := by decide +kernel
theorem dX11_set_36 : decode cX11_set 36 = .ok (.ifCond .ne 6, 3) := by decide +kernel
theorem dX11_set_39 : decode cX11_set 39 = .ok (.bipush (-13), 2) := by decide +kernel
theorem dX11_set_41 : decode cX11_set 41 = .ok (.ireturn, 1) := by decide +kernel
theorem dX11_set_42 : decode cX11_set 42 = .ok (.aload_n 0, 1) := by decide +kernel
theorem dX11_set_43 : decode cX11_set 43 = .ok (.getfield 61, 3) := by decide +kernel
theorem dX11_set_46 : decode cX11_set 46 = .ok (.bipush 40, 2) := by decide +kernel
theorem dX11_set_48 : decode cX11_set 48 = .ok (.iload_n 1, 1) := by decide +kernel
theorem dX11_set_49 : decode cX11_set 49 = .ok (.imul, 1) := by decide +kernel
theorem dX11_set_50 : decode cX11_set 50 = .ok (.iload_n 2, 1) := by decide +kernel
theorem dX11_set_51 : decode cX11_set 51 = .ok (.iadd, 1) := by decide +kernel
theorem dX11_set_52 : decode cX11_set 52 = .ok (.iload_n 3, 1) := by decide +kernel
theorem dX11_set_53 : decode cX11_set 53 = .ok (.iastore, 1) := by decide +kernel
theorem dX11_set_54 : decode cX11_set 54 = .ok (.iconst 1, 1) := by decide +kernel
theorem dX11_set_55 : decode cX11_set 55 = .ok (.ireturn, 1) := by decide +kernel
theorem dX11_stands_0 : decode cX11_stands 0 = .ok (.iload_n 1, 1) := by decide +kernel
theorem dX11_stands_1 : decode cX11_stands 1 = .ok (.invokestatic 72, 3) := by decide +kernel
theorem dX11_stands_4 : decode cX11_stands 4 = .ok (.ifCond .eq 43, 3) := by decide +kernel
theorem dX11_stands_7 : decode cX11_stands 7 = .ok (.iload_n 2, 1) := by decide +kernel
theorem dX11_stands_8 : decode cX11_stands 8 = .ok (.i2l, 1) := by decide +kernel
theorem dX11_stands_9 : decode cX11_stands 9 = .ok (.lconst 0, 1) := by decide +kernel
theorem dX11_stands_10 : decode cX11_stands 10 = .ok (.lconst 1, 1) := by decide +kernel
theorem dX11_stands_11 : decode cX11_stands 11 = .ok (.invokestatic 64, 3) := by decide +kernel
theorem dX11_stands_14 : decode cX11_stands 14 = .ok (.ifCond .eq 33, 3) := by decide +kernel
theorem dX11_stands_17 : decode cX11_stands 17 = .ok (.iload_n 3, 1) := by decide +kernel
theorem dX11_stands_18 : decode cX11_stands 18 = .ok (.i2l, 1) := by decide +kernel
theorem dX11_stands_19 : decode cX11_stands 19 = .ok (.lconst 0, 1) := by decide +kernel
theorem dX11_stands_20 : decode cX11_stands 20 = .ok (.aload_n 0, 1) := by decide +kernel
theorem dX11_stands_21 : decode cX11_stands 21 = .ok (.getfield 9, 3) := by decide +kernel
theorem dX11_stands_24 : decode cX11_stands 24 = .ok (.iload_n 2, 1) := by decide +kernel
theorem dX11_stands_25 : decode cX11_stands 25 = .ok (.ifCond .ne 8, 3) := by decide +kernel
theorem dX11_stands_28 : decode cX11_stands 28 = .ok (.bipush 18, 2) := by decide +kernel
theorem dX11_stands_30 : decode cX11_stands 30 = .ok (.goto 5, 3) := by decide +kernel
theorem dX11_stands_33 : decode cX11_stands 33 = .ok (.bipush 33, 2) := by decide +kernel
theorem dX11_stands_35 : decode cX11_stands 35 = .ok (.iload_n 1, 1) := by decide +kernel
theorem dX11_stands_36 : decode cX11_stands 36 = .ok (.iadd, 1) := by decide +kernel
theorem dX11_stands_37 : decode cX11_stands 37 = .ok (.iaload, 1) := by decide +kernel
theorem dX11_stands_38 : decode cX11_stands 38 = .ok (.iconst 1, 1) := by decide +kernel
theorem dX11_stands_39 : decode cX11_stands 39 = .ok (.isub, 1) := by decide +kernel
theorem dX11_stands_40 : decode cX11_stands 40 = .ok (.i2l, 1) := by decide +kernel
theorem dX11_stands_41 : decode cX11_stands 41 = .ok (.invokestatic 64, 3) := by decide +kernel
theorem dX11_stands_44 : decode cX11_stands 44 = .ok (.ifCond .ne 5, 3) := by decide +kernel
theorem dX11_stands_47 : decode cX11_stands 47 = .ok (.iconst (-1), 1) := by decide +kernel
theorem dX11_stands_48 : decode cX11_stands 48 = .ok (.ireturn, 1) := by decide +kernel
theorem dX11_stands_49 : decode cX11_stands 49 = .ok (.aload_n 0, 1) := by decide +kernel
theorem dX11_stands_50 : decode cX11_stands 50 = .ok (.getfield 9, 3) := by decide +kernel
theorem dX11_stands_53 : decode cX11_stands 53 = .ok (.iload_n 2, 1) := by decide +kernel
theorem dX11_stands_54 : decode cX11_stands 54 = .ok (.ifCond .ne 8, 3) := by decide +kernel
theorem dX11_stands_57 : decode cX11_stands 57 = .ok (.bipush 21, 2) := by decide +kernel
theorem dX11_stands_59 : decode cX11_stands 59 = .ok (.goto 5, 3) := by decide +kernel
theorem dX11_stands_62 : decode cX11_stands 62 = .ok (.bipush 36, 2) := by decide +kernel
theorem dX11_stands_64 : decode cX11_stands 64 = .ok (.iconst 4, 1) := by decide +kernel
theorem dX11_stands_65 : decode cX11_stands 65 = .ok (.iload_n 1, 1) := by decide +kernel
theorem dX11_stands_66 : decode cX11_stands 66 = .ok (.imul, 1) := by decide +kernel
theorem dX11_stands_67 : decode cX11_stands 67 = .ok (.iadd, 1) := by decide +kernel
theorem dX11_stands_68 : decode cX11_stands 68 = .ok (.iload_n 3, 1) := by decide +kernel
theorem dX11_stands_69 : decode cX11_stands 69 = .ok (.iadd, 1) := by decide +kernel
theorem dX11_stands_70 : decode cX11_stands 70 = .ok (.iaload, 1) := by decide +kernel
theorem dX11_stands_71 : decode cX11_stands 71 = .ok (.iconst 1, 1) := by decide +kernel
theorem dX11_stands_72 : decode cX11_stands 72 = .ok (.isub, 1) := by decide +kernel
theorem dX11_stands_73 : decode cX11_stands 73 = .ok (.ireturn, 1) := by decide +kernel
theorem dX11_standsAt_0 : decode cX11_standsAt 0 = .ok (.bipush (-5), 2) := by decide +kernel
theorem dX11_standsAt_2 : decode cX11_standsAt 2 = .ok (.istore_n 2, 1) := by decide +kernel
theorem dX11_standsAt_3 : decode cX11_standsAt 3 = .ok (.iconst 0, 1) := by decide +kernel
theorem dX11_standsAt_4 : decode cX11_standsAt 4 = .ok (.istore_n 3, 1) := by decide +kernel
theorem dX11_standsAt_5 : decode cX11_standsAt 5 = .ok (.iload_n 3, 1) := by decide +kernel
theorem dX11_standsAt_6 : decode cX11_standsAt 6 = .ok (.iconst 3, 1) := by decide +kernel
theorem dX11_standsAt_7 : decode cX11_standsAt 7 = .ok (.if_icmp .ge 82, 3) := by decide +kernel
theorem dX11_standsAt_10 : decode cX11_standsAt 10 = .ok (.iconst 0, 1) := by decide +kernel
theorem dX11_standsAt_11 : decode cX11_standsAt 11 = .ok (.istore 4, 2) := by decide +kernel
theorem dX11_standsAt_13 : decode cX11_standsAt 13 = .ok (.iload 4, 2) := by decide +kernel
theorem dX11_standsAt_15 : decode cX11_standsAt 15 = .ok (.iconst 4, 1) := by decide +kernel
theorem dX11_standsAt_16 : decode cX11_standsAt 16 = .ok (.if_icmp .ge 67, 3) := by decide +kernel
theorem dX11_standsAt_19 : decode cX11_standsAt 19 = .ok (.aload_n 0, 1) := by decide +kernel
theorem dX11_standsAt_20 : decode cX11_standsAt 20 = .ok (.getfield 9, 3) := by decide +kernel
theorem dX11_standsAt_23 : decode cX11_standsAt 23 = .ok (.bipush 21, 2) := by decide +kernel
theorem dX11_standsAt_25 : decode cX11_standsAt 25 = .ok (.iconst 4, 1) := by decide +kernel
theorem dX11_standsAt_26 : decode cX11_standsAt 26 = .ok (.iload_n 3, 1) := by decide +kernel
theorem dX11_standsAt_27 : decode cX11_standsAt 27 = .ok (.imul, 1) := by decide +kernel
theorem dX11_standsAt_28 : decode cX11_standsAt 28 = .ok (.iadd, 1) := by decide +kernel
theorem dX11_standsAt_29 : decode cX11_standsAt 29 = .ok (.iload 4, 2) := by decide +kernel
theorem dX11_standsAt_31 : decode cX11_standsAt 31 = .ok (.iadd, 1) := by decide +kernel
theorem dX11_standsAt_32 : decode cX11_standsAt 32 = .ok (.iaload, 1) := by decide +kernel
theorem dX11_standsAt_33 : decode cX11_standsAt 33 = .ok (.iload_n 1, 1) := by decide +kernel
theorem dX11_standsAt_34 : decode cX11_standsAt 34 = .ok (.iconst 1, 1) := by decide +kernel
theorem dX11_standsAt_35 : decode cX11_standsAt 35 = .ok (.iadd, 1) := by decide +kernel
theorem dX11_standsAt_36 : decode cX11_standsAt 36 = .ok (.if_icmp .eq 23, 3) := by decide +kernel
theorem dX11_standsAt_39 : decode cX11_standsAt 39 = .ok (.aload_n 0, 1) := by decide +kernel
theorem dX11_standsAt_40 : decode cX11_standsAt 40 = .ok (.getfield 9, 3) := by decide +kernel
theorem dX11_standsAt_43 : decode cX11_standsAt 43 = .ok (.bipush 36, 2) := by decide +kernel
theorem dX11_standsAt_45 : decode cX11_standsAt 45 = .ok (.iconst 4, 1) := by decide +kernel
theorem dX11_standsAt_46 : decode cX11_standsAt 46 = .ok (.iload_n 3, 1) := by decide +kernel
theorem dX11_standsAt_47 : decode cX11_standsAt 47 = .ok (.imul, 1) := by decide +kernel
theorem dX11_standsAt_48 : decode cX11_standsAt 48 = .ok (.iadd, 1) := by decide +kernel
theorem dX11_standsAt_49 : decode cX11_standsAt 49 = .ok (.iload 4, 2) := by decide +kernel
theorem dX11_standsAt_51 : decode cX11_standsAt 51 = .ok (.iadd, 1) := by decide +kernel
theorem dX11_standsAt_52 : decode cX11_standsAt 52 = .ok (.iaload, 1) := by decide +kernel
theorem dX11_standsAt_53 : decode cX11_standsAt 53 = .ok (.iload_n 1, 1) := by decide +kernel
theorem dX11_standsAt_54 : decode cX11_standsAt 54 = .ok (.iconst 1, 1) := by decide +kernel
theorem dX11_standsAt_55 : decode cX11_standsAt 55 = .ok (.iadd, 1) := by decide +kernel
theorem dX11_standsAt_56 : decode cX11_standsAt 56 = .ok (.if_icmp .ne 7, 3) := by decide +kernel
theorem dX11_standsAt_59 : decode cX11_standsAt 59 = .ok (.iconst 1, 1) := by decide +kernel
theorem dX11_standsAt_60 : decode cX11_standsAt 60 = .ok (.goto 4, 3) := by decide +kernel
theorem dX11_standsAt_63 : decode cX11_standsAt 63 = .ok (.iconst 0, 1) := by decide +kernel
theorem dX11_standsAt_64 : decode cX11_standsAt 64 = .ok (.istore 5, 2) := by decide +kernel
theorem dX11_standsAt_66 : decode cX11_standsAt 66 = .ok (.iload 5, 2) := by decide +kernel
theorem dX11_standsAt_68 : decode cX11_standsAt 68 = .ok (.ifCond .eq 7, 3) := by decide +kernel
theorem dX11_standsAt_71 : decode cX11_standsAt 71 = .ok (.iload_n 3, 1) := by decide +kernel
theorem dX11_standsAt_72 : decode cX11_standsAt 72 = .ok (.goto 4, 3) := by decide +kernel
theorem dX11_standsAt_75 : decode cX11_standsAt 75 = .ok (.iload_n 2, 1) := by decide +kernel
theorem dX11_standsAt_76 : decode cX11_standsAt 76 = .ok (.istore_n 2, 1) := by decide +kernel
theorem dX11_standsAt_77 : decode cX11_standsAt 77 = .ok (.iinc 4 1, 3) := by decide +kernel
theorem dX11_standsAt_80 : decode cX11_standsAt 80 = .ok (.goto (-67), 3) := by decide +kernel
theorem dX11_standsAt_83 : decode cX11_standsAt 83 = .ok (.iinc 3 1, 3) := by decide +kernel
theorem dX11_standsAt_86 : decode cX11_standsAt 86 = .ok (.goto (-81), 3) := by decide +kernel
theorem dX11_standsAt_89 : decode cX11_standsAt 89 = .ok (.iload_n 2, 1) := by decide +kernel
theorem dX11_standsAt_90 : decode cX11_standsAt 90 = .ok (.ireturn, 1) := by decide +kernel
theorem dX11_statement_0 : decode cX11_statement 0 = .ok (.aload_n 0, 1) := by decide +kernel
theorem dX11_statement_1 : decode cX11_statement 1 = .ok (.iload_n 1, 1) := by decide +kernel
theorem dX11_statement_2 : decode cX11_statement 2 = .ok (.invokevirtual 133, 3) := by decide +kernel
theorem dX11_statement_5 : decode cX11_statement 5 = .ok (.ifCond .eq 46, 3) := by decide +kernel
theorem dX11_statement_8 : decode cX11_statement 8 = .ok (.iload_n 2, 1) := by decide +kernel
theorem dX11_statement_9 : decode cX11_statement 9 = .ok (.i2l, 1) := by decide +kernel
theorem dX11_statement_10 : decode cX11_statement 10 = .ok (.lconst 0, 1) := by decide +kernel
theorem dX11_statement_11 : decode cX11_statement 11 = .ok (.aload_n 0, 1) := by decide +kernel
theorem dX11_statement_12 : decode cX11_statement 12 = .ok (.getfield 9, 3) := by decide +kernel
theorem dX11_statement_15 : decode cX11_statement 15 = .ok (.bipush 57, 2) := by decide +kernel
theorem dX11_statement_17 : decode cX11_statement 17 = .ok (.iload_n 1, 1) := by decide +kernel
theorem dX11_statement_18 : decode cX11_statement 18 = .ok (.iadd, 1) := by decide +kernel
theorem dX11_statement_19 : decode cX11_statement 19 = .ok (.iaload, 1) := by decide +kernel
theorem dX11_statement_20 : decode cX11_statement 20 = .ok (.iconst 1, 1) := by decide +kernel
theorem dX11_statement_21 : decode cX11_statement 21 = .ok (.isub, 1) := by decide +kernel
theorem dX11_statement_22 : decode cX11_statement 22 = .ok (.i2l, 1) := by decide +kernel
theorem dX11_statement_23 : decode cX11_statement 23 = .ok (.invokestatic 64, 3) := by decide +kernel
theorem dX11_statement_26 : decode cX11_statement 26 = .ok (.ifCond .eq 25, 3) := by decide +kernel
theorem dX11_statement_29 : decode cX11_statement 29 = .ok (.iload_n 3, 1) := by decide +kernel
theorem dX11_statement_30 : decode cX11_statement 30 = .ok (.i2l, 1) := by decide +kernel
theorem dX11_statement_31 : decode cX11_statement 31 = .ok (.lconst 0, 1) := by decide +kernel
theorem dX11_statement_32 : decode cX11_statement 32 = .ok (.ldc2_w 70, 3) := by decide +kernel
theorem dX11_statement_35 : decode cX11_statement 35 = .ok (.invokestatic 64, 3) := by decide +kernel
theorem dX11_statement_38 : decode cX11_statement 38 = .ok (.ifCond .eq 13, 3) := by decide +kernel
theorem dX11_statement_41 : decode cX11_statement 41 = .ok (.aload_n 0, 1) := by decide +kernel
theorem dX11_statement_42 : decode cX11_statement 42 = .ok (.iload_n 1, 1) := by decide +kernel
theorem dX11_statement_43 : decode cX11_statement 43 = .ok (.iload_n 2, 1) := by decide +kernel
theorem dX11_statement_44 : decode cX11_statement 44 = .ok (.iload_n 3, 1) := by decide +kernel
theorem dX11_statement_45 : decode cX11_statement 45 = .ok (.invokevirtual 150, 3) := by decide +kernel
theorem dX11_statement_48 : decode cX11_statement 48 = .ok (.goto 5, 3) := by decide +kernel
theorem dX11_statement_51 : decode cX11_statement 51 = .ok (.bipush (-100), 2) := by decide +kernel
theorem dX11_statement_53 : decode cX11_statement 53 = .ok (.ireturn, 1) := by decide +kernel
theorem dX11_statement1_0 : decode cX11_statement1 0 = .ok (.aload_n 0, 1) := by decide +kernel
theorem dX11_statement1_1 : decode cX11_statement1 1 = .ok (.invokevirtual 119, 3) := by decide +kernel
theorem dX11_statement1_4 : decode cX11_statement1 4 = .ok (.istore_n 2, 1) := by decide +kernel
theorem dX11_statement1_5 : decode cX11_statement1 5 = .ok (.aload_n 0, 1) := by decide +kernel
theorem dX11_statement1_6 : decode cX11_statement1 6 = .ok (.getfield 92, 3) := by decide +kernel
theorem dX11_statement1_9 : decode cX11_statement1 9 = .ok (.ifCond .lt 7, 3) := by decide +kernel
theorem dX11_statement1_12 : decode cX11_statement1 12 = .ok (.iconst 0, 1) := by decide +kernel
theorem dX11_statement1_13 : decode cX11_statement1 13 = .ok (.goto 42, 3) := by decide +kernel
theorem dX11_statement1_16 : decode cX11_statement1 16 = .ok (.iload_n 2, 1) := by decide +kernel
theorem dX11_statement1_17 : decode cX11_statement1 17 = .ok (.iconst 5, 1) := by decide +kernel
theorem dX11_statement1_18 : decode cX11_statement1 18 = .ok (.if_icmp .ge 13, 3) := by decide +kernel
theorem dX11_statement1_21 : decode cX11_statement1 21 = .ok (.aload_n 0, 1) := by decide +kernel
theorem dX11_statement1_22 : decode cX11_statement1 22 = .ok (.iconst 1, 1) := by decide +kernel
theorem dX11_statement1_23 : decode cX11_statement1 23 = .ok (.iconst 2, 1) := by decide +kernel
theorem dX11_statement1_24 : decode cX11_statement1 24 = .ok (.iconst 0, 1) := by decide +kernel
theorem dX11_statement1_25 : decode cX11_statement1 25 = .ok (.invokevirtual 122, 3) := by decide +kernel
theorem dX11_statement1_28 : decode cX11_statement1 28 = .ok (.goto 27, 3) := by decide +kernel
theorem dX11_statement1_31 : decode cX11_statement1 31 = .ok (.iload_n 2, 1) := by decide +kernel
theorem dX11_statement1_32 : decode cX11_statement1 32 = .ok (.bipush 8, 2) := by decide +kernel
theorem dX11_statement1_34 : decode cX11_statement1 34 = .ok (.if_icmp .ge 13, 3) := by decide +kernel
theorem dX11_statement1_37 : decode cX11_statement1 37 = .ok (.aload_n 0, 1) := by decide +kernel
theorem dX11_statement1_38 : decode cX11_statement1 38 = .ok (.iconst 1, 1) := by decide +kernel
theorem dX11_statement1_39 : decode cX11_statement1 39 = .ok (.iconst 3, 1) := by decide +kernel
theorem dX11_statement1_40 : decode cX11_statement1 40 = .ok (.iconst 0, 1) := by decide +kernel
theorem dX11_statement1_41 : decode cX11_statement1 41 = .ok (.invokevirtual 122, 3) := by decide +kernel
theorem dX11_statement1_44 : decode cX11_statement1 44 = .ok (.goto 11, 3) := by decide +kernel
theorem dX11_statement1_47 : decode cX11_statement1 47 = .ok (.aload_n 0, 1) := by decide +kernel
theorem dX11_statement1_48 : decode cX11_statement1 48 = .ok (.iconst 2, 1) := by decide +kernel
theorem dX11_statement1_49 : decode cX11_statement1 49 = .ok (.bipush 12, 2) := by decide +kernel
theorem dX11_statement1_51 : decode cX11_statement1 51 = .ok (.iconst 0, 1) := by decide +kernel
theorem dX11_statement1_52 : decode cX11_statement1 52 = .ok (.invokevirtual 122, 3) := by decide +kernel
theorem dX11_statement1_55 : decode cX11_statement1 55 = .ok (.istore_n 3, 1) := by decide +kernel
theorem dX11_statement1_56 : decode cX11_statement1 56 = .ok (.aload_n 0, 1) := by decide +kernel
theorem dX11_statement1_57 : decode cX11_statement1 57 = .ok (.getfield 92, 3) := by decide +kernel
theorem dX11_statement1_60 : decode cX11_statement1 60 = .ok (.ifCond .ge 28, 3) := by decide +kernel
theorem dX11_statement1_63 : decode cX11_statement1 63 = .ok (.iload_n 2, 1) := by decide +kernel
theorem dX11_statement1_64 : decode cX11_statement1 64 = .ok (.i2l, 1) := by decide +kernel
theorem dX11_statement1_65 : decode cX11_statement1 65 = .ok (.ldc2_w 126, 3) := by decide +kernel
theorem dX11_statement1_68 : decode cX11_statement1 68 = .ok (.ldc2_w 128, 3) := by decide +kernel
theorem dX11_statement1_71 : decode cX11_statement1 71 = .ok (.invokestatic 64, 3) := by decide +kernel
theorem dX11_statement1_74 : decode cX11_statement1 74 = .ok (.ifCond .eq 14, 3) := by decide +kernel
theorem dX11_statement1_77 : decode cX11_statement1 77 = .ok (.aload_n 0, 1) := by decide +kernel
theorem dX11_statement1_78 : decode cX11_statement1 78 = .ok (.iconst 2, 1) := by decide +kernel
theorem dX11_statement1_79 : decode cX11_statement1 79 = .ok (.bipush 99, 2) := by decide +kernel
theorem dX11_statement1_81 : decode cX11_statement1 81 = .ok (.iconst 1, 1) := by decide +kernel
theorem dX11_statement1_82 : decode cX11_statement1 82 = .ok (.invokevirtual 122, 3) := by decide +kernel
theorem dX11_statement1_85 : decode cX11_statement1 85 = .ok (.goto 4, 3) := by decide +kernel
theorem dX11_statement1_88 : decode cX11_statement1 88 = .ok (.iconst 0, 1) := by decide +kernel
theorem dX11_statement1_89 : decode cX11_statement1 89 = .ok (.istore 4, 2) := by decide +kernel
theorem dX11_statement1_91 : decode cX11_statement1 91 = .ok (.aload_n 0, 1) := by decide +kernel
theorem dX11_statement1_92 : decode cX11_statement1 92 = .ok (.getfield 92, 3) := by decide +kernel
theorem dX11_statement1_95 : decode cX11_statement1 95 = .ok (.ifCond .ge 20, 3) := by decide +kernel
theorem dX11_statement1_98 : decode cX11_statement1 98 = .ok (.iload_n 2, 1) := by decide +kernel
theorem dX11_statement1_99 : decode cX11_statement1 99 = .ok (.bipush 7, 2) := by decide +kernel
theorem dX11_statement1_101 : decode cX11_statement1 101 = .ok (.if_icmp .ne 14, 3) := by decide +kernel
theorem dX11_statement1_104 : decode cX11_statement1 104 = .ok (.aload_n 0, 1) := by decide +kernel
theorem dX11_statement1_105 : decode cX11_statement1 105 = .ok (.iconst 2, 1) := by decide +kernel
theorem dX11_statement1_106 : decode cX11_statement1 106 = .ok (.bipush 12, 2) := by decide +kernel
theorem dX11_statement1_108 : decode cX11_statement1 108 = .ok (.iconst 0, 1) := by decide +kernel
theorem dX11_statement1_109 : decode cX11_statement1 109 = .ok (.invokevirtual 122, 3) := by decide +kernel
theorem dX11_statement1_112 : decode cX11_statement1 112 = .ok (.goto 4, 3) := by decide +kernel
theorem dX11_statement1_115 : decode cX11_statement1 115 = .ok (.iconst 0, 1) := by decide +kernel
theorem dX11_statement1_116 : decode cX11_statement1 116 = .ok (.istore 5, 2) := by decide +kernel
theorem dX11_statement1_118 : decode cX11_statement1 118 = .ok (.aload_n 0, 1) := by decide +kernel
theorem dX11_statement1_119 : decode cX11_statement1 119 = .ok (.getfield 28, 3) := by decide +kernel
theorem dX11_statement1_122 : decode cX11_statement1 122 = .ok (.iconst 4, 1) := by decide +kernel
theorem dX11_statement1_123 : decode cX11_statement1 123 = .ok (.iload_n 1, 1) := by decide +kernel
theorem dX11_statement1_124 : decode cX11_statement1 124 = .ok (.imul, 1) := by decide +kernel
theorem dX11_statement1_125 : decode cX11_statement1 125 = .ok (.iload_n 2, 1) := by decide +kernel
theorem dX11_statement1_126 : decode cX11_statement1 126 = .ok (.iastore, 1) := by decide +kernel
theorem dX11_statement1_127 : decode cX11_statement1 127 = .ok (.aload_n 0, 1) := by decide +kernel
theorem dX11_statement1_128 : decode cX11_statement1 128 = .ok (.getfield 28, 3) := by decide +kernel
theorem dX11_statement1_131 : decode cX11_statement1 131 = .ok (.iconst 4, 1) := by decide +kernel
theorem dX11_statement1_132 : decode cX11_statement1 132 = .ok (.iload_n 1, 1) := by decide +kernel
theorem dX11_statement1_133 : decode cX11_statement1 133 = .ok (.imul, 1) := by decide +kernel
theorem dX11_statement1_134 : decode cX11_statement1 134 = .ok (.iconst 1, 1) := by decide +kernel
theorem dX11_statement1_135 : decode cX11_statement1 135 = .ok (.iadd, 1) := by decide +kernel
theorem dX11_statement1_136 : decode cX11_statement1 136 = .ok (.iload_n 3, 1) := by decide +kernel
theorem dX11_statement1_137 : decode cX11_statement1 137 = .ok (.iastore, 1) := by decide +kernel
theorem dX11_statement1_138 : decode cX11_statement1 138 = .ok (.aload_n 0, 1) := by decide +kernel
theorem dX11_statement1_139 : decode cX11_statement1 139 = .ok (.getfield 28, 3) := by decide +kernel
theorem dX11_statement1_142 : decode cX11_statement1 142 = .ok (.iconst 4, 1) := by decide +kernel
theorem dX11_statement1_143 : decode cX11_statement1 143 = .ok (.iload_n 1, 1) := by decide +kernel
theorem dX11_statement1_144 : decode cX11_statement1 144 = .ok (.imul, 1) := by decide +kernel
theorem dX11_statement1_145 : decode cX11_statement1 145 = .ok (.iconst 2, 1) := by decide +kernel
theorem dX11_statement1_146 : decode cX11_statement1 146 = .ok (.iadd, 1) := by decide +kernel
theorem dX11_statement1_147 : decode cX11_statement1 147 = .ok (.iload 4, 2) := by decide +kernel
theorem dX11_statement1_149 : decode cX11_statement1 149 = .ok (.iastore, 1) := by decide +kernel
theorem dX11_statement1_150 : decode cX11_statement1 150 = .ok (.aload_n 0, 1) := by decide +kernel
theorem dX11_statement1_151 : decode cX11_statement1 151 = .ok (.getfield 28, 3) := by decide +kernel
theorem dX11_statement1_154 : decode cX11_statement1 154 = .ok (.iconst 4, 1) := by decide +kernel
theorem dX11_statement1_155 : decode cX11_statement1 155 = .ok (.iload_n 1, 1) := by decide +kernel
theorem dX11_statement1_156 : decode cX11_statement1 156 = .ok (.imul, 1) := by decide +kernel
theorem dX11_statement1_157 : decode cX11_statement1 157 = .ok (.iconst 3, 1) := by decide +kernel
theorem dX11_statement1_158 : decode cX11_statement1 158 = .ok (.iadd, 1) := by decide +kernel
theorem dX11_statement1_159 : decode cX11_statement1 159 = .ok (.iload 5, 2) := by decide +kernel
theorem dX11_statement1_161 : decode cX11_statement1 161 = .ok (.iastore, 1) := by decide +kernel
theorem dX11_statement1_162 : decode cX11_statement1 162 = .ok (.return_, 1) := by decide +kernel
theorem dX11_step_0 : decode cX11_step 0 = .ok (.aload_n 0, 1) := by decide +kernel
theorem dX11_step_1 : decode cX11_step 1 = .ok (.iload_n 1, 1) := by decide +kernel
theorem dX11_step_2 : decode cX11_step 2 = .ok (.invokevirtual 133, 3) := by decide +kernel
theorem dX11_step_5 : decode cX11_step 5 = .ok (.ifCond .ne 5, 3) := by decide +kernel
theorem dX11_step_8 : decode cX11_step 8 = .ok (.iconst (-1), 1) := by decide +kernel
theorem dX11_step_9 : decode cX11_step 9 = .ok (.ireturn, 1) := by decide +kernel
theorem dX11_step_10 : decode cX11_step 10 = .ok (.aload_n 0, 1) := by decide +kernel
theorem dX11_step_11 : decode cX11_step 11 = .ok (.iload_n 1, 1) := by decide +kernel
theorem dX11_step_12 : decode cX11_step 12 = .ok (.invokevirtual 191, 3) := by decide +kernel
theorem dX11_step_15 : decode cX11_step 15 = .ok (.ifCond .ne 6, 3) := by decide +kernel
theorem dX11_step_18 : decode cX11_step 18 = .ok (.bipush (-3), 2) := by decide +kernel
theorem dX11_step_20 : decode cX11_step 20 = .ok (.ireturn, 1) := by decide +kernel
theorem dX11_step_21 : decode cX11_step 21 = .ok (.aload_n 0, 1) := by decide +kernel
theorem dX11_step_22 : decode cX11_step 22 = .ok (.iload_n 1, 1) := by decide +kernel
theorem dX11_step_23 : decode cX11_step 23 = .ok (.invokevirtual 194, 3) := by decide +kernel
theorem dX11_step_26 : decode cX11_step 26 = .ok (.aload_n 0, 1) := by decide +kernel
theorem dX11_step_27 : decode cX11_step 27 = .ok (.getfield 9, 3) := by decide +kernel
theorem dX11_step_30 : decode cX11_step 30 = .ok (.iconst 4, 1) := by decide +kernel
theorem dX11_step_31 : decode cX11_step 31 = .ok (.iload_n 1, 1) := by decide +kernel
theorem dX11_step_32 : decode cX11_step 32 = .ok (.iadd, 1) := by decide +kernel
theorem dX11_step_33 : decode cX11_step 33 = .ok (.iaload, 1) := by decide +kernel
theorem dX11_step_34 : decode cX11_step 34 = .ok (.ireturn, 1) := by decide +kernel
theorem dX11_steps_0 : decode cX11_steps 0 = .ok (.aload_n 0, 1) := by decide +kernel
theorem dX11_steps_1 : decode cX11_steps 1 = .ok (.iconst 0, 1) := by decide +kernel
theorem dX11_steps_2 : decode cX11_steps 2 = .ok (.putfield 166, 3) := by decide +kernel
theorem dX11_steps_5 : decode cX11_steps 5 = .ok (.aload_n 0, 1) := by decide +kernel
theorem dX11_steps_6 : decode cX11_steps 6 = .ok (.getfield 16, 3) := by decide +kernel
theorem dX11_steps_9 : decode cX11_steps 9 = .ok (.iload_n 1, 1) := by decide +kernel
theorem dX11_steps_10 : decode cX11_steps 10 = .ok (.iaload, 1) := by decide +kernel
theorem dX11_steps_11 : decode cX11_steps 11 = .ok (.istore_n 2, 1) := by decide +kernel
theorem dX11_steps_12 : decode cX11_steps 12 = .ok (.aload_n 0, 1) := by decide +kernel
theorem dX11_steps_13 : decode cX11_steps 13 = .ok (.getfield 9, 3) := by decide +kernel
theorem dX11_steps_16 : decode cX11_steps 16 = .ok (.bipush 57, 2) := by decide +kernel
theorem dX11_steps_18 : decode cX11_steps 18 = .ok (.iload_n 1, 1) := by decide +kernel
theorem dX11_steps_19 : decode cX11_steps 19 = .ok (.iadd, 1) := by decide +kernel
theorem dX11_steps_20 : decode cX11_steps 20 = .ok (.iaload, 1) := by decide +kernel
theorem dX11_steps_21 : decode cX11_steps 21 = .ok (.istore_n 3, 1) := by decide +kernel
theorem dX11_steps_22 : decode cX11_steps 22 = .ok (.iload_n 2, 1) := by decide +kernel
theorem dX11_steps_23 : decode cX11_steps 23 = .ok (.iload_n 3, 1) := by decide +kernel
theorem dX11_steps_24 : decode cX11_steps 24 = .ok (.if_icmp .ne 10, 3) := by decide +kernel
theorem dX11_steps_27 : decode cX11_steps 27 = .ok (.aload_n 0, 1) := by decide +kernel
theorem dX11_steps_28 : decode cX11_steps 28 = .ok (.iload_n 1, 1) := by decide +kernel
theorem dX11_steps_29 : decode cX11_steps 29 = .ok (.iconst 3, 1) := by decide +kernel
theorem dX11_steps_30 : decode cX11_steps 30 = .ok (.invokevirtual 181, 3) := by decide +kernel
theorem dX11_steps_33 : decode cX11_steps 33 = .ok (.return_, 1) := by decide +kernel
theorem dX11_steps_34 : decode cX11_steps 34 = .ok (.aload_n 0, 1) := by decide +kernel
theorem dX11_steps_35 : decode cX11_steps 35 = .ok (.iload_n 1, 1) := by decide +kernel
theorem dX11_steps_36 : decode cX11_steps 36 = .ok (.iload_n 2, 1) := by decide +kernel
theorem dX11_steps_37 : decode cX11_steps 37 = .ok (.iconst 0, 1) := by decide +kernel
theorem dX11_steps_38 : decode cX11_steps 38 = .ok (.invokevirtual 150, 3) := by decide +kernel
theorem dX11_steps_41 : decode cX11_steps 41 = .ok (.istore 4, 2) := by decide +kernel
theorem dX11_steps_43 : decode cX11_steps 43 = .ok (.aload_n 0, 1) := by decide +kernel
theorem dX11_steps_44 : decode cX11_steps 44 = .ok (.iload_n 1, 1) := by decide +kernel
theorem dX11_steps_45 : decode cX11_steps 45 = .ok (.iload_n 2, 1) := by decide +kernel
theorem dX11_steps_46 : decode cX11_steps 46 = .ok (.iconst 1, 1) := by decide +kernel
theorem dX11_steps_47 : decode cX11_steps 47 = .ok (.invokevirtual 150, 3) := by decide +kernel
theorem dX11_steps_50 : decode cX11_steps 50 = .ok (.istore 5, 2) := by decide +kernel
theorem dX11_steps_52 : decode cX11_steps 52 = .ok (.aload_n 0, 1) := by decide +kernel
theorem dX11_steps_53 : decode cX11_steps 53 = .ok (.iload_n 1, 1) := by decide +kernel
theorem dX11_steps_54 : decode cX11_steps 54 = .ok (.iload_n 2, 1) := by decide +kernel
theorem dX11_steps_55 : decode cX11_steps 55 = .ok (.iconst 2, 1) := by decide +kernel
theorem dX11_steps_56 : decode cX11_steps 56 = .ok (.invokevirtual 150, 3) := by decide +kernel
theorem dX11_steps_59 : decode cX11_steps 59 = .ok (.istore 6, 2) := by decide +kernel
theorem dX11_steps_61 : decode cX11_steps 61 = .ok (.aload_n 0, 1) := by decide +kernel
theorem dX11_steps_62 : decode cX11_steps 62 = .ok (.getfield 16, 3) := by decide +kernel
theorem dX11_steps_65 : decode cX11_steps 65 = .ok (.iload_n 1, 1) := by decide +kernel
theorem dX11_steps_66 : decode cX11_steps 66 = .ok (.iload_n 2, 1) := by decide +kernel
theorem dX11_steps_67 : decode cX11_steps 67 = .ok (.iconst 1, 1) := by decide +kernel
theorem dX11_steps_68 : decode cX11_steps 68 = .ok (.iadd, 1) := by decide +kernel
theorem dX11_steps_69 : decode cX11_steps 69 = .ok (.iastore, 1) := by decide +kernel
theorem dX11_steps_70 : decode cX11_steps 70 = .ok (.iload_n 2, 1) := by decide +kernel
theorem dX11_steps_71 : decode cX11_steps 71 = .ok (.iconst 1, 1) := by decide +kernel
theorem dX11_steps_72 : decode cX11_steps 72 = .ok (.iadd, 1) := by decide +kernel
theorem dX11_steps_73 : decode cX11_steps 73 = .ok (.istore 7, 2) := by decide +kernel
theorem dX11_steps_75 : decode cX11_steps 75 = .ok (.iload 4, 2) := by decide +kernel
theorem dX11_steps_77 : decode cX11_steps 77 = .ok (.iconst 5, 1) := by decide +kernel
theorem dX11_steps_78 : decode cX11_steps 78 = .ok (.if_icmp .ge 15, 3) := by decide +kernel
theorem dX11_steps_81 : decode cX11_steps 81 = .ok (.aload_n 0, 1) := by decide +kernel
theorem dX11_steps_82 : decode cX11_steps 82 = .ok (.iload_n 1, 1) := by decide +kernel
theorem dX11_steps_83 : decode cX11_steps 83 = .ok (.iload 4, 2) := by decide +kernel
theorem dX11_steps_85 : decode cX11_steps 85 = .ok (.iload 5, 2) := by decide +kernel
theorem dX11_steps_87 : decode cX11_steps 87 = .ok (.invokevirtual 184, 3) := by decide +kernel
theorem dX11_steps_90 : decode cX11_steps 90 = .ok (.goto 138, 3) := by decide +kernel
theorem dX11_steps_93 : decode cX11_steps 93 = .ok (.iload 4, 2) := by decide +kernel
theorem dX11_steps_95 : decode cX11_steps 95 = .ok (.iconst 5, 1) := by decide +kernel
theorem dX11_steps_96 : decode cX11_steps 96 = .ok (.if_icmp .ne 67, 3) := by decide +kernel
theorem dX11_steps_99 : decode cX11_steps 99 = .ok (.aload_n 0, 1) := by decide +kernel
theorem dX11_steps_100 : decode cX11_steps 100 = .ok (.aload_n 0, 1) := by decide +kernel
theorem dX11_steps_101 : decode cX11_steps 101 = .ok (.getfield 16, 3) := by decide +kernel
theorem dX11_steps_104 : decode cX11_steps 104 = .ok (.bipush 48, 2) := by decide +kernel
theorem dX11_steps_106 : decode cX11_steps 106 = .ok (.iload 5, 2) := by decide +kernel
theorem dX11_steps_108 : decode cX11_steps 108 = .ok (.iadd, 1) := by decide +kernel
theorem dX11_steps_109 : decode cX11_steps 109 = .ok (.iaload, 1) := by decide +kernel
theorem dX11_steps_110 : decode cX11_steps 110 = .ok (.iload 6, 2) := by decide +kernel
theorem dX11_steps_112 : decode cX11_steps 112 = .ok (.iadd, 1) := by decide +kernel
theorem dX11_steps_113 : decode cX11_steps 113 = .ok (.i2l, 1) := by decide +kernel
theorem dX11_steps_114 : decode cX11_steps 114 = .ok (.ldc2_w 79, 3) := by decide +kernel
theorem dX11_steps_117 : decode cX11_steps 117 = .ok (.ldc2_w 81, 3) := by decide +kernel
theorem dX11_steps_120 : decode cX11_steps 120 = .ok (.invokestatic 64, 3) := by decide +kernel
theorem dX11_steps_123 : decode cX11_steps 123 = .ok (.ifCond .eq 7, 3) := by decide +kernel
theorem dX11_steps_126 : decode cX11_steps 126 = .ok (.iconst 0, 1) := by decide +kernel
theorem dX11_steps_127 : decode cX11_steps 127 = .ok (.goto 4, 3) := by decide +kernel
theorem dX11_steps_130 : decode cX11_steps 130 = .ok (.iconst 4, 1) := by decide +kernel
theorem dX11_steps_131 : decode cX11_steps 131 = .ok (.putfield 166, 3) := by decide +kernel
theorem dX11_steps_134 : decode cX11_steps 134 = .ok (.aload_n 0, 1) := by decide +kernel
theorem dX11_steps_135 : decode cX11_steps 135 = .ok (.getfield 16, 3) := by decide +kernel
theorem dX11_steps_138 : decode cX11_steps 138 = .ok (.bipush 48, 2) := by decide +kernel
theorem dX11_steps_140 : decode cX11_steps 140 = .ok (.iload 5, 2) := by decide +kernel
theorem dX11_steps_142 : decode cX11_steps 142 = .ok (.iadd, 1) := by decide +kernel
theorem dX11_steps_143 : decode cX11_steps 143 = .ok (.dup2, 1) := by decide +kernel
theorem dX11_steps_144 : decode cX11_steps 144 = .ok (.iaload, 1) := by decide +kernel
theorem dX11_steps_145 : decode cX11_steps 145 = .ok (.aload_n 0, 1) := by decide +kernel
theorem dX11_steps_146 : decode cX11_steps 146 = .ok (.getfield 166, 3) := by decide +kernel
theorem dX11_steps_149 : decode cX11_steps 149 = .ok (.ifCond .ne 8, 3) := by decide +kernel
theorem dX11_steps_152 : decode cX11_steps 152 = .ok (.iload 6, 2) := by decide +kernel
theorem dX11_steps_154 : decode cX11_steps 154 = .ok (.goto 4, 3) := by decide +kernel
theorem dX11_steps_157 : decode cX11_steps 157 = .ok (.iconst 0, 1) := by decide +kernel
theorem dX11_steps_158 : decode cX11_steps 158 = .ok (.iadd, 1) := by decide +kernel
theorem dX11_steps_159 : decode cX11_steps 159 = .ok (.iastore, 1) := by decide +kernel
theorem dX11_steps_160 : decode cX11_steps 160 = .ok (.goto 68, 3) := by decide +kernel
theorem dX11_steps_163 : decode cX11_steps 163 = .ok (.iload 4, 2) := by decide +kernel
theorem dX11_steps_165 : decode cX11_steps 165 = .ok (.bipush 6, 2) := by decide +kernel
theorem dX11_steps_167 : decode cX11_steps 167 = .ok (.if_icmp .ne 18, 3) := by decide +kernel
theorem dX11_steps_170 : decode cX11_steps 170 = .ok (.aload_n 0, 1) := by decide +kernel
theorem dX11_steps_171 : decode cX11_steps 171 = .ok (.getfield 16, 3) := by decide +kernel
theorem dX11_steps_174 : decode cX11_steps 174 = .ok (.bipush 48, 2) := by decide +kernel
theorem dX11_steps_176 : decode cX11_steps 176 = .ok (.iload 5, 2) := by decide +kernel
theorem dX11_steps_178 : decode cX11_steps 178 = .ok (.iadd, 1) := by decide +kernel
theorem dX11_steps_179 : decode cX11_steps 179 = .ok (.iload 6, 2) := by decide +kernel
theorem dX11_steps_181 : decode cX11_steps 181 = .ok (.iastore, 1) := by decide +kernel
theorem dX11_steps_182 : decode cX11_steps 182 = .ok (.goto 46, 3) := by decide +kernel
theorem dX11_steps_185 : decode cX11_steps 185 = .ok (.iload 4, 2) := by decide +kernel
theorem dX11_steps_187 : decode cX11_steps 187 = .ok (.bipush 7, 2) := by decide +kernel
theorem dX11_steps_189 : decode cX11_steps 189 = .ok (.if_icmp .ne 35, 3) := by decide +kernel
theorem dX11_steps_192 : decode cX11_steps 192 = .ok (.aload_n 0, 1) := by decide +kernel
theorem dX11_steps_193 : decode cX11_steps 193 = .ok (.getfield 16, 3) := by decide +kernel
theorem dX11_steps_196 : decode cX11_steps 196 = .ok (.bipush 48, 2) := by decide +kernel
theorem dX11_steps_198 : decode cX11_steps 198 = .ok (.iload 5, 2) := by decide +kernel
theorem dX11_steps_200 : decode cX11_steps 200 = .ok (.iadd, 1) := by decide +kernel
theorem dX11_steps_201 : decode cX11_steps 201 = .ok (.iaload, 1) := by decide +kernel
theorem dX11_steps_202 : decode cX11_steps 202 = .ok (.iload 6, 2) := by decide +kernel
theorem dX11_steps_204 : decode cX11_steps 204 = .ok (.if_icmp .ne 8, 3) := by decide +kernel
theorem dX11_steps_207 : decode cX11_steps 207 = .ok (.iload 7, 2) := by decide +kernel
theorem dX11_steps_209 : decode cX11_steps 209 = .ok (.goto 10, 3) := by decide +kernel
theorem dX11_steps_212 : decode cX11_steps 212 = .ok (.aload_n 0, 1) := by decide +kernel
theorem dX11_steps_213 : decode cX11_steps 213 = .ok (.iload_n 1, 1) := by decide +kernel
theorem dX11_steps_214 : decode cX11_steps 214 = .ok (.iload_n 2, 1) := by decide +kernel
theorem dX11_steps_215 : decode cX11_steps 215 = .ok (.iconst 3, 1) := by decide +kernel
theorem dX11_steps_216 : decode cX11_steps 216 = .ok (.invokevirtual 150, 3) := by decide +kernel
theorem dX11_steps_219 : decode cX11_steps 219 = .ok (.istore 7, 2) := by decide +kernel
theorem dX11_steps_221 : decode cX11_steps 221 = .ok (.goto 7, 3) := by decide +kernel
theorem dX11_steps_224 : decode cX11_steps 224 = .ok (.iload 5, 2) := by decide +kernel
theorem dX11_steps_226 : decode cX11_steps 226 = .ok (.istore 7, 2) := by decide +kernel
theorem dX11_steps_228 : decode cX11_steps 228 = .ok (.aload_n 0, 1) := by decide +kernel
theorem dX11_steps_229 : decode cX11_steps 229 = .ok (.getfield 16, 3) := by decide +kernel
theorem dX11_steps_232 : decode cX11_steps 232 = .ok (.iload_n 1, 1) := by decide +kernel
theorem dX11_steps_233 : decode cX11_steps 233 = .ok (.iload 7, 2) := by decide +kernel
theorem dX11_steps_235 : decode cX11_steps 235 = .ok (.iload_n 3, 1) := by decide +kernel
theorem dX11_steps_236 : decode cX11_steps 236 = .ok (.if_icmp .le 7, 3) := by decide +kernel
theorem dX11_steps_239 : decode cX11_steps 239 = .ok (.iload_n 3, 1) := by decide +kernel
theorem dX11_steps_240 : decode cX11_steps 240 = .ok (.goto 5, 3) := by decide +kernel
theorem dX11_steps_243 : decode cX11_steps 243 = .ok (.iload 7, 2) := by decide +kernel
theorem dX11_steps_245 : decode cX11_steps 245 = .ok (.iastore, 1) := by decide +kernel
theorem dX11_steps_246 : decode cX11_steps 246 = .ok (.aload_n 0, 1) := by decide +kernel
theorem dX11_steps_247 : decode cX11_steps 247 = .ok (.getfield 166, 3) := by decide +kernel
theorem dX11_steps_250 : decode cX11_steps 250 = .ok (.ifCond .le 16, 3) := by decide +kernel
theorem dX11_steps_253 : decode cX11_steps 253 = .ok (.aload_n 0, 1) := by decide +kernel
theorem dX11_steps_254 : decode cX11_steps 254 = .ok (.getfield 16, 3) := by decide +kernel
theorem dX11_steps_257 : decode cX11_steps 257 = .ok (.iload_n 1, 1) := by decide +kernel
theorem dX11_steps_258 : decode cX11_steps 258 = .ok (.iload_n 2, 1) := by decide +kernel
theorem dX11_steps_259 : decode cX11_steps 259 = .ok (.iastore, 1) := by decide +kernel
theorem dX11_steps_260 : decode cX11_steps 260 = .ok (.aload_n 0, 1) := by decide +kernel
theorem dX11_steps_261 : decode cX11_steps 261 = .ok (.iload_n 1, 1) := by decide +kernel
theorem dX11_steps_262 : decode cX11_steps 262 = .ok (.iconst 4, 1) := by decide +kernel
theorem dX11_steps_263 : decode cX11_steps 263 = .ok (.invokevirtual 181, 3) := by decide +kernel
theorem dX11_steps_266 : decode cX11_steps 266 = .ok (.return_, 1) := by decide +kernel
theorem dX11_stepsTruly_0 : decode cX11_stepsTruly 0 = .ok (.aload_n 0, 1) := by decide +kernel
theorem dX11_stepsTruly_1 : decode cX11_stepsTruly 1 = .ok (.getfield 9, 3) := by decide +kernel
theorem dX11_stepsTruly_4 : decode cX11_stepsTruly 4 = .ok (.iload_n 1, 1) := by decide +kernel
theorem dX11_stepsTruly_5 : decode cX11_stepsTruly 5 = .ok (.iaload, 1) := by decide +kernel
theorem dX11_stepsTruly_6 : decode cX11_stepsTruly 6 = .ok (.istore_n 2, 1) := by decide +kernel
theorem dX11_stepsTruly_7 : decode cX11_stepsTruly 7 = .ok (.aload_n 0, 1) := by decide +kernel
theorem dX11_stepsTruly_8 : decode cX11_stepsTruly 8 = .ok (.getfield 9, 3) := by decide +kernel
theorem dX11_stepsTruly_11 : decode cX11_stepsTruly 11 = .ok (.iconst 0, 1) := by decide +kernel
theorem dX11_stepsTruly_12 : decode cX11_stepsTruly 12 = .ok (.aload_n 0, 1) := by decide +kernel
theorem dX11_stepsTruly_13 : decode cX11_stepsTruly 13 = .ok (.getfield 16, 3) := by decide +kernel
theorem dX11_stepsTruly_16 : decode cX11_stepsTruly 16 = .ok (.iconst 0, 1) := by decide +kernel
theorem dX11_stepsTruly_17 : decode cX11_stepsTruly 17 = .ok (.bipush 52, 2) := by decide +kernel
theorem dX11_stepsTruly_19 : decode cX11_stepsTruly 19 = .ok (.invokestatic 146, 3) := by decide +kernel
theorem dX11_stepsTruly_22 : decode cX11_stepsTruly 22 = .ok (.aload_n 0, 1) := by decide +kernel
theorem dX11_stepsTruly_23 : decode cX11_stepsTruly 23 = .ok (.iload_n 1, 1) := by decide +kernel
theorem dX11_stepsTruly_24 : decode cX11_stepsTruly 24 = .ok (.invokevirtual 188, 3) := by decide +kernel
theorem dX11_stepsTruly_27 : decode cX11_stepsTruly 27 = .ok (.aload_n 0, 1) := by decide +kernel
theorem dX11_stepsTruly_28 : decode cX11_stepsTruly 28 = .ok (.getfield 16, 3) := by decide +kernel
theorem dX11_stepsTruly_31 : decode cX11_stepsTruly 31 = .ok (.iconst 0, 1) := by decide +kernel
theorem dX11_stepsTruly_32 : decode cX11_stepsTruly 32 = .ok (.aload_n 0, 1) := by decide +kernel
theorem dX11_stepsTruly_33 : decode cX11_stepsTruly 33 = .ok (.getfield 9, 3) := by decide +kernel
theorem dX11_stepsTruly_36 : decode cX11_stepsTruly 36 = .ok (.iconst 0, 1) := by decide +kernel
theorem dX11_stepsTruly_37 : decode cX11_stepsTruly 37 = .ok (.bipush 52, 2) := by decide +kernel
theorem dX11_stepsTruly_39 : decode cX11_stepsTruly 39 = .ok (.invokestatic 146, 3) := by decide +kernel
theorem dX11_stepsTruly_42 : decode cX11_stepsTruly 42 = .ok (.aload_n 0, 1) := by decide +kernel
theorem dX11_stepsTruly_43 : decode cX11_stepsTruly 43 = .ok (.getfield 9, 3) := by decide +kernel
theorem dX11_stepsTruly_46 : decode cX11_stepsTruly 46 = .ok (.bipush 56, 2) := by decide +kernel
theorem dX11_stepsTruly_48 : decode cX11_stepsTruly 48 = .ok (.iload_n 1, 1) := by decide +kernel
theorem dX11_stepsTruly_49 : decode cX11_stepsTruly 49 = .ok (.iastore, 1) := by decide +kernel
theorem dX11_stepsTruly_50 : decode cX11_stepsTruly 50 = .ok (.aload_n 0, 1) := by decide +kernel
theorem dX11_stepsTruly_51 : decode cX11_stepsTruly 51 = .ok (.getfield 19, 3) := by decide +kernel
theorem dX11_stepsTruly_54 : decode cX11_stepsTruly 54 = .ok (.iload_n 1, 1) := by decide +kernel
theorem dX11_stepsTruly_55 : decode cX11_stepsTruly 55 = .ok (.aload_n 0, 1) := by decide +kernel
theorem dX11_stepsTruly_56 : decode cX11_stepsTruly 56 = .ok (.getfield 166, 3) := by decide +kernel
theorem dX11_stepsTruly_59 : decode cX11_stepsTruly 59 = .ok (.iastore, 1) := by decide +kernel
theorem dX11_stepsTruly_60 : decode cX11_stepsTruly 60 = .ok (.aload_n 0, 1) := by decide +kernel
theorem dX11_stepsTruly_61 : decode cX11_stepsTruly 61 = .ok (.getfield 22, 3) := by decide +kernel
theorem dX11_stepsTruly_64 : decode cX11_stepsTruly 64 = .ok (.iload_n 1, 1) := by decide +kernel
theorem dX11_stepsTruly_65 : decode cX11_stepsTruly 65 = .ok (.aload_n 0, 1) := by decide +kernel
theorem dX11_stepsTruly_66 : decode cX11_stepsTruly 66 = .ok (.getfield 9, 3) := by decide +kernel
theorem dX11_stepsTruly_69 : decode cX11_stepsTruly 69 = .ok (.iconst 4, 1) := by decide +kernel
theorem dX11_stepsTruly_70 : decode cX11_stepsTruly 70 = .ok (.iload_n 1, 1) := by decide +kernel
theorem dX11_stepsTruly_71 : decode cX11_stepsTruly 71 = .ok (.iadd, 1) := by decide +kernel
theorem dX11_stepsTruly_72 : decode cX11_stepsTruly 72 = .ok (.iaload, 1) := by decide +kernel
theorem dX11_stepsTruly_73 : decode cX11_stepsTruly 73 = .ok (.iconst 3, 1) := by decide +kernel
theorem dX11_stepsTruly_74 : decode cX11_stepsTruly 74 = .ok (.if_icmp .ne 10, 3) := by decide +kernel
theorem dX11_stepsTruly_77 : decode cX11_stepsTruly 77 = .ok (.aload_n 0, 1) := by decide +kernel
theorem dX11_stepsTruly_78 : decode cX11_stepsTruly 78 = .ok (.getfield 157, 3) := by decide +kernel
theorem dX11_stepsTruly_81 : decode cX11_stepsTruly 81 = .ok (.goto 4, 3) := by decide +kernel
theorem dX11_stepsTruly_84 : decode cX11_stepsTruly 84 = .ok (.iconst 0, 1) := by decide +kernel
theorem dX11_stepsTruly_85 : decode cX11_stepsTruly 85 = .ok (.iastore, 1) := by decide +kernel
theorem dX11_stepsTruly_86 : decode cX11_stepsTruly 86 = .ok (.aload_n 0, 1) := by decide +kernel
theorem dX11_stepsTruly_87 : decode cX11_stepsTruly 87 = .ok (.getfield 166, 3) := by decide +kernel
theorem dX11_stepsTruly_90 : decode cX11_stepsTruly 90 = .ok (.ifCond .le 32, 3) := by decide +kernel
theorem dX11_stepsTruly_93 : decode cX11_stepsTruly 93 = .ok (.aload_n 0, 1) := by decide +kernel
theorem dX11_stepsTruly_94 : decode cX11_stepsTruly 94 = .ok (.iconst 4, 1) := by decide +kernel
theorem dX11_stepsTruly_95 : decode cX11_stepsTruly 95 = .ok (.iload_n 1, 1) := by decide +kernel
theorem dX11_stepsTruly_96 : decode cX11_stepsTruly 96 = .ok (.iload_n 2, 1) := by decide +kernel
theorem dX11_stepsTruly_97 : decode cX11_stepsTruly 97 = .ok (.aload_n 0, 1) := by decide +kernel
theorem dX11_stepsTruly_98 : decode cX11_stepsTruly 98 = .ok (.getfield 166, 3) := by decide +kernel
theorem dX11_stepsTruly_101 : decode cX11_stepsTruly 101 = .ok (.iconst 3, 1) := by decide +kernel
theorem dX11_stepsTruly_102 : decode cX11_stepsTruly 102 = .ok (.if_icmp .ge 8, 3) := by decide +kernel
theorem dX11_stepsTruly_105 : decode cX11_stepsTruly 105 = .ok (.bipush 6, 2) := by decide +kernel
theorem dX11_stepsTruly_107 : decode cX11_stepsTruly 107 = .ok (.goto 5, 3) := by decide +kernel
theorem dX11_stepsTruly_110 : decode cX11_stepsTruly 110 = .ok (.bipush 7, 2) := by decide +kernel
theorem dX11_stepsTruly_112 : decode cX11_stepsTruly 112 = .ok (.aload_n 0, 1) := by decide +kernel
theorem dX11_stepsTruly_113 : decode cX11_stepsTruly 113 = .ok (.iload_n 1, 1) := by decide +kernel
theorem dX11_stepsTruly_114 : decode cX11_stepsTruly 114 = .ok (.iload_n 2, 1) := by decide +kernel
theorem dX11_stepsTruly_115 : decode cX11_stepsTruly 115 = .ok (.iconst 1, 1) := by decide +kernel
theorem dX11_stepsTruly_116 : decode cX11_stepsTruly 116 = .ok (.invokevirtual 150, 3) := by decide +kernel
theorem dX11_stepsTruly_119 : decode cX11_stepsTruly 119 = .ok (.invokevirtual 142, 3) := by decide +kernel
theorem dX11_stepsTruly_122 : decode cX11_stepsTruly 122 = .ok (.return_, 1) := by decide +kernel
theorem dX11_sticks_0 : decode cX11_sticks 0 = .ok (.aload_n 0, 1) := by decide +kernel
theorem dX11_sticks_1 : decode cX11_sticks 1 = .ok (.aload_n 1, 1) := by decide +kernel
theorem dX11_sticks_2 : decode cX11_sticks 2 = .ok (.iload_n 2, 1) := by decide +kernel
theorem dX11_sticks_3 : decode cX11_sticks 3 = .ok (.iconst 0, 1) := by decide +kernel
theorem dX11_sticks_4 : decode cX11_sticks 4 = .ok (.invokevirtual 215, 3) := by decide +kernel
theorem dX11_sticks_7 : decode cX11_sticks 7 = .ok (.ifCond .ne 25, 3) := by decide +kernel
theorem dX11_sticks_10 : decode cX11_sticks 10 = .ok (.aload_n 0, 1) := by decide +kernel
theorem dX11_sticks_11 : decode cX11_sticks 11 = .ok (.aload_n 1, 1) := by decide +kernel
theorem dX11_sticks_12 : decode cX11_sticks 12 = .ok (.iload_n 2, 1) := by decide +kernel
theorem dX11_sticks_13 : decode cX11_sticks 13 = .ok (.iconst 1, 1) := by decide +kernel
theorem dX11_sticks_14 : decode cX11_sticks 14 = .ok (.invokevirtual 215, 3) := by decide +kernel
theorem dX11_sticks_17 : decode cX11_sticks 17 = .ok (.aload_n 0, 1) := by decide +kernel
theorem dX11_sticks_18 : decode cX11_sticks 18 = .ok (.aload_n 1, 1) := by decide +kernel
theorem dX11_sticks_19 : decode cX11_sticks 19 = .ok (.iload_n 2, 1) := by decide +kernel
theorem dX11_sticks_20 : decode cX11_sticks 20 = .ok (.iconst 2, 1) := by decide +kernel
theorem dX11_sticks_21 : decode cX11_sticks 21 = .ok (.invokevirtual 215, 3) := by decide +kernel
theorem dX11_sticks_24 : decode cX11_sticks 24 = .ok (.ior, 1) := by decide +kernel
theorem dX11_sticks_25 : decode cX11_sticks 25 = .ok (.ifCond .eq 7, 3) := by decide +kernel
theorem dX11_sticks_28 : decode cX11_sticks 28 = .ok (.iconst 1, 1) := by decide +kernel
theorem dX11_sticks_29 : decode cX11_sticks 29 = .ok (.goto 4, 3) := by decide +kernel
theorem dX11_sticks_32 : decode cX11_sticks 32 = .ok (.iconst 0, 1) := by decide +kernel
theorem dX11_sticks_33 : decode cX11_sticks 33 = .ok (.ireturn, 1) := by decide +kernel
theorem dX11_takes_0 : decode cX11_takes 0 = .ok (.aload_n 0, 1) := by decide +kernel
theorem dX11_takes_1 : decode cX11_takes 1 = .ok (.aload_n 0, 1) := by decide +kernel
theorem dX11_takes_2 : decode cX11_takes 2 = .ok (.invokevirtual 95, 3) := by decide +kernel
theorem dX11_takes_5 : decode cX11_takes 5 = .ok (.iload_n 1, 1) := by decide +kernel
theorem dX11_takes_6 : decode cX11_takes 6 = .ok (.if_icmp .ne 7, 3) := by decide +kernel
theorem dX11_takes_9 : decode cX11_takes 9 = .ok (.iconst 1, 1) := by decide +kernel
theorem dX11_takes_10 : decode cX11_takes 10 = .ok (.goto 4, 3) := by decide +kernel
theorem dX11_takes_13 : decode cX11_takes 13 = .ok (.iconst 0, 1) := by decide +kernel
theorem dX11_takes_14 : decode cX11_takes 14 = .ok (.aload_n 0, 1) := by decide +kernel
theorem dX11_takes_15 : decode cX11_takes 15 = .ok (.getfield 89, 3) := by decide +kernel
theorem dX11_takes_18 : decode cX11_takes 18 = .ok (.invokevirtual 99, 3) := by decide +kernel
theorem dX11_takes_21 : decode cX11_takes 21 = .ok (.aload_n 0, 1) := by decide +kernel
theorem dX11_takes_22 : decode cX11_takes 22 = .ok (.dup, 1) := by decide +kernel
theorem dX11_takes_23 : decode cX11_takes 23 = .ok (.getfield 89, 3) := by decide +kernel
theorem dX11_takes_26 : decode cX11_takes 26 = .ok (.iconst 1, 1) := by decide +kernel
theorem dX11_takes_27 : decode cX11_takes 27 = .ok (.iadd, 1) := by decide +kernel
theorem dX11_takes_28 : decode cX11_takes 28 = .ok (.putfield 89, 3) := by decide +kernel
theorem dX11_takes_31 : decode cX11_takes 31 = .ok (.return_, 1) := by decide +kernel
theorem dX11_task_0 : decode cX11_task 0 = .ok (.aload_n 0, 1) := by decide +kernel
theorem dX11_task_1 : decode cX11_task 1 = .ok (.getfield 9, 3) := by decide +kernel
theorem dX11_task_4 : decode cX11_task 4 = .ok (.bipush 52, 2) := by decide +kernel
theorem dX11_task_6 : decode cX11_task 6 = .ok (.iaload, 1) := by decide +kernel
theorem dX11_task_7 : decode cX11_task 7 = .ok (.iconst 4, 1) := by decide +kernel
theorem dX11_task_8 : decode cX11_task 8 = .ok (.if_icmp .ne 6, 3) := by decide +kernel
theorem dX11_task_11 : decode cX11_task 11 = .ok (.bipush (-4), 2) := by decide +kernel
theorem dX11_task_13 : decode cX11_task 13 = .ok (.ireturn, 1) := by decide +kernel
theorem dX11_task_14 : decode cX11_task 14 = .ok (.aload_n 0, 1) := by decide +kernel
theorem dX11_task_15 : decode cX11_task 15 = .ok (.getfield 9, 3) := by decide +kernel
theorem dX11_task_18 : decode cX11_task 18 = .ok (.bipush 52, 2) := by decide +kernel
theorem dX11_task_20 : decode cX11_task 20 = .ok (.dup2, 1) := by decide +kernel
theorem dX11_task_21 : decode cX11_task 21 = .ok (.iaload, 1) := by decide +kernel
theorem dX11_task_22 : decode cX11_task 22 = .ok (.iconst 1, 1) := by decide +kernel
theorem dX11_task_23 : decode cX11_task 23 = .ok (.iadd, 1) := by decide +kernel
theorem dX11_task_24 : decode cX11_task 24 = .ok (.iastore, 1) := by decide +kernel
theorem dX11_task_25 : decode cX11_task 25 = .ok (.aload_n 0, 1) := by decide +kernel
theorem dX11_task_26 : decode cX11_task 26 = .ok (.getfield 9, 3) := by decide +kernel
theorem dX11_task_29 : decode cX11_task 29 = .ok (.bipush 52, 2) := by decide +kernel
theorem dX11_task_31 : decode cX11_task 31 = .ok (.iaload, 1) := by decide +kernel
theorem dX11_task_32 : decode cX11_task 32 = .ok (.iconst 1, 1) := by decide +kernel
theorem dX11_task_33 : decode cX11_task 33 = .ok (.isub, 1) := by decide +kernel
theorem dX11_task_34 : decode cX11_task 34 = .ok (.ireturn, 1) := by decide +kernel
theorem dX11_tells_0 : decode cX11_tells 0 = .ok (.aload_n 0, 1) := by decide +kernel
theorem dX11_tells_1 : decode cX11_tells 1 = .ok (.iconst 3, 1) := by decide +kernel
theorem dX11_tells_2 : decode cX11_tells 2 = .ok (.putfield 130, 3) := by decide +kernel
theorem dX11_tells_5 : decode cX11_tells 5 = .ok (.aload_n 0, 1) := by decide +kernel
theorem dX11_tells_6 : decode cX11_tells 6 = .ok (.getfield 34, 3) := by decide +kernel
theorem dX11_tells_9 : decode cX11_tells 9 = .ok (.iconst 0, 1) := by decide +kernel
theorem dX11_tells_10 : decode cX11_tells 10 = .ok (.iload_n 1, 1) := by decide +kernel
theorem dX11_tells_11 : decode cX11_tells 11 = .ok (.iastore, 1) := by decide +kernel
theorem dX11_tells_12 : decode cX11_tells 12 = .ok (.aload_n 0, 1) := by decide +kernel
theorem dX11_tells_13 : decode cX11_tells 13 = .ok (.getfield 37, 3) := by decide +kernel
theorem dX11_tells_16 : decode cX11_tells 16 = .ok (.iconst 0, 1) := by decide +kernel
theorem dX11_tells_17 : decode cX11_tells 17 = .ok (.iload_n 2, 1) := by decide +kernel
theorem dX11_tells_18 : decode cX11_tells 18 = .ok (.iastore, 1) := by decide +kernel
theorem dX11_tells_19 : decode cX11_tells 19 = .ok (.aload_n 0, 1) := by decide +kernel
theorem dX11_tells_20 : decode cX11_tells 20 = .ok (.getfield 34, 3) := by decide +kernel
theorem dX11_tells_23 : decode cX11_tells 23 = .ok (.iconst 1, 1) := by decide +kernel
theorem dX11_tells_24 : decode cX11_tells 24 = .ok (.iload_n 1, 1) := by decide +kernel
theorem dX11_tells_25 : decode cX11_tells 25 = .ok (.iconst 1, 1) := by decide +kernel
theorem dX11_tells_26 : decode cX11_tells 26 = .ok (.iadd, 1) := by decide +kernel
theorem dX11_tells_27 : decode cX11_tells 27 = .ok (.iastore, 1) := by decide +kernel
theorem dX11_tells_28 : decode cX11_tells 28 = .ok (.aload_n 0, 1) := by decide +kernel
theorem dX11_tells_29 : decode cX11_tells 29 = .ok (.getfield 37, 3) := by decide +kernel
theorem dX11_tells_32 : decode cX11_tells 32 = .ok (.iconst 1, 1) := by decide +kernel
theorem dX11_tells_33 : decode cX11_tells 33 = .ok (.iload_n 3, 1) := by decide +kernel
theorem dX11_tells_34 : decode cX11_tells 34 = .ok (.iastore, 1) := by decide +kernel
theorem dX11_tells_35 : decode cX11_tells 35 = .ok (.aload_n 0, 1) := by decide +kernel
theorem dX11_tells_36 : decode cX11_tells 36 = .ok (.getfield 34, 3) := by decide +kernel
theorem dX11_tells_39 : decode cX11_tells 39 = .ok (.iconst 2, 1) := by decide +kernel
theorem dX11_tells_40 : decode cX11_tells 40 = .ok (.iload 4, 2) := by decide +kernel
theorem dX11_tells_42 : decode cX11_tells 42 = .ok (.iastore, 1) := by decide +kernel
theorem dX11_tells_43 : decode cX11_tells 43 = .ok (.aload_n 0, 1) := by decide +kernel
theorem dX11_tells_44 : decode cX11_tells 44 = .ok (.getfield 37, 3) := by decide +kernel
theorem dX11_tells_47 : decode cX11_tells 47 = .ok (.iconst 2, 1) := by decide +kernel
theorem dX11_tells_48 : decode cX11_tells 48 = .ok (.iload 5, 2) := by decide +kernel
theorem dX11_tells_50 : decode cX11_tells 50 = .ok (.iastore, 1) := by decide +kernel
theorem dX11_tells_51 : decode cX11_tells 51 = .ok (.return_, 1) := by decide +kernel
theorem dX11_told_0 : decode cX11_told 0 = .ok (.iload_n 1, 1) := by decide +kernel
theorem dX11_told_1 : decode cX11_told 1 = .ok (.tableswitch 101 0 5 #[39, 47, 52, 57, 75, 93], 39) := by decide +kernel
theorem dX11_told_40 : decode cX11_told 40 = .ok (.aload_n 0, 1) := by decide +kernel
theorem dX11_told_41 : decode cX11_told 41 = .ok (.getfield 9, 3) := by decide +kernel
theorem dX11_told_44 : decode cX11_told 44 = .ok (.bipush 52, 2) := by decide +kernel
theorem dX11_told_46 : decode cX11_told 46 = .ok (.iaload, 1) := by decide +kernel
theorem dX11_told_47 : decode cX11_told 47 = .ok (.ireturn, 1) := by decide +kernel
theorem dX11_told_48 : decode cX11_told 48 = .ok (.aload_n 0, 1) := by decide +kernel
theorem dX11_told_49 : decode cX11_told 49 = .ok (.getfield 85, 3) := by decide +kernel
theorem dX11_told_52 : decode cX11_told 52 = .ok (.ireturn, 1) := by decide +kernel
theorem dX11_told_53 : decode cX11_told 53 = .ok (.aload_n 0, 1) := by decide +kernel
theorem dX11_told_54 : decode cX11_told 54 = .ok (.getfield 218, 3) := by decide +kernel
theorem dX11_told_57 : decode cX11_told 57 = .ok (.ireturn, 1) := by decide +kernel
theorem dX11_told_58 : decode cX11_told 58 = .ok (.aload_n 0, 1) := by decide +kernel
theorem dX11_told_59 : decode cX11_told 59 = .ok (.aload_n 0, 1) := by decide +kernel
theorem dX11_told_60 : decode cX11_told 60 = .ok (.getfield 9, 3) := by decide +kernel
theorem dX11_told_63 : decode cX11_told 63 = .ok (.iconst 0, 1) := by decide +kernel
theorem dX11_told_64 : decode cX11_told 64 = .ok (.invokevirtual 221, 3) := by decide +kernel
theorem dX11_told_67 : decode cX11_told 67 = .ok (.ifCond .eq 7, 3) := by decide +kernel
theorem dX11_told_70 : decode cX11_told 70 = .ok (.iconst 1, 1) := by decide +kernel
theorem dX11_told_71 : decode cX11_told 71 = .ok (.goto 4, 3) := by decide +kernel
theorem dX11_told_74 : decode cX11_told 74 = .ok (.iconst 0, 1) := by decide +kernel
theorem dX11_told_75 : decode cX11_told 75 = .ok (.ireturn, 1) := by decide +kernel
theorem dX11_told_76 : decode cX11_told 76 = .ok (.aload_n 0, 1) := by decide +kernel
theorem dX11_told_77 : decode cX11_told 77 = .ok (.aload_n 0, 1) := by decide +kernel
theorem dX11_told_78 : decode cX11_told 78 = .ok (.getfield 9, 3) := by decide +kernel
theorem dX11_told_81 : decode cX11_told 81 = .ok (.iconst 0, 1) := by decide +kernel
theorem dX11_told_82 : decode cX11_told 82 = .ok (.invokevirtual 225, 3) := by decide +kernel
theorem dX11_told_85 : decode cX11_told 85 = .ok (.ifCond .eq 7, 3) := by decide +kernel
theorem dX11_told_88 : decode cX11_told 88 = .ok (.iconst 1, 1) := by decide +kernel
theorem dX11_told_89 : decode cX11_told 89 = .ok (.goto 4, 3) := by decide +kernel
theorem dX11_told_92 : decode cX11_told 92 = .ok (.iconst 0, 1) := by decide +kernel
theorem dX11_told_93 : decode cX11_told 93 = .ok (.ireturn, 1) := by decide +kernel
theorem dX11_told_94 : decode cX11_told 94 = .ok (.aload_n 0, 1) := by decide +kernel
theorem dX11_told_95 : decode cX11_told 95 = .ok (.getfield 9, 3) := by decide +kernel
theorem dX11_told_98 : decode cX11_told 98 = .ok (.bipush 56, 2) := by decide +kernel
theorem dX11_told_100 : decode cX11_told 100 = .ok (.iaload, 1) := by decide +kernel
theorem dX11_told_101 : decode cX11_told 101 = .ok (.ireturn, 1) := by decide +kernel
theorem dX11_told_102 : decode cX11_told 102 = .ok (.iconst (-1), 1) := by decide +kernel
theorem dX11_told_103 : decode cX11_told 103 = .ok (.ireturn, 1) := by decide +kernel
theorem dX11_under_0 : decode cX11_under 0 = .ok (.iload_n 1, 1) := by decide +kernel
theorem dX11_under_1 : decode cX11_under 1 = .ok (.invokestatic 72, 3) := by decide +kernel
theorem dX11_under_4 : decode cX11_under 4 = .ok (.ifCond .ne 5, 3) := by decide +kernel
theorem dX11_under_7 : decode cX11_under 7 = .ok (.iconst (-1), 1) := by decide +kernel
theorem dX11_under_8 : decode cX11_under 8 = .ok (.ireturn, 1) := by decide +kernel
theorem dX11_under_9 : decode cX11_under 9 = .ok (.aload_n 0, 1) := by decide +kernel
theorem dX11_under_10 : decode cX11_under 10 = .ok (.invokevirtual 252, 3) := by decide +kernel
theorem dX11_under_13 : decode cX11_under 13 = .ok (.aload_n 0, 1) := by decide +kernel
theorem dX11_under_14 : decode cX11_under 14 = .ok (.iload_n 1, 1) := by decide +kernel
theorem dX11_under_15 : decode cX11_under 15 = .ok (.invokevirtual 285, 3) := by decide +kernel
theorem dX11_under_18 : decode cX11_under 18 = .ok (.ireturn, 1) := by decide +kernel
theorem dX11_underIn_0 : decode cX11_underIn 0 = .ok (.iconst 0, 1) := by decide +kernel
theorem dX11_underIn_1 : decode cX11_underIn 1 = .ok (.istore_n 2, 1) := by decide +kernel
theorem dX11_underIn_2 : decode cX11_underIn 2 = .ok (.iconst 0, 1) := by decide +kernel
theorem dX11_underIn_3 : decode cX11_underIn 3 = .ok (.istore_n 3, 1) := by decide +kernel
theorem dX11_underIn_4 : decode cX11_underIn 4 = .ok (.iload_n 3, 1) := by decide +kernel
theorem dX11_underIn_5 : decode cX11_underIn 5 = .ok (.aload_n 0, 1) := by decide +kernel
theorem dX11_underIn_6 : decode cX11_underIn 6 = .ok (.getfield 231, 3) := by decide +kernel
theorem dX11_underIn_9 : decode cX11_underIn 9 = .ok (.if_icmp .ge 179, 3) := by decide +kernel
theorem dX11_underIn_12 : decode cX11_underIn 12 = .ok (.iconst 0, 1) := by decide +kernel
theorem dX11_underIn_13 : decode cX11_underIn 13 = .ok (.istore 4, 2) := by decide +kernel
theorem dX11_underIn_15 : decode cX11_underIn 15 = .ok (.iload 4, 2) := by decide +kernel
theorem dX11_underIn_17 : decode cX11_underIn 17 = .ok (.aload_n 0, 1) := by decide +kernel
theorem dX11_underIn_18 : decode cX11_underIn 18 = .ok (.getfield 9, 3) := by decide +kernel
theorem dX11_underIn_21 : decode cX11_underIn 21 = .ok (.bipush 52, 2) := by decide +kernel
theorem dX11_underIn_23 : decode cX11_underIn 23 = .ok (.iaload, 1) := by decide +kernel
theorem dX11_underIn_24 : decode cX11_underIn 24 = .ok (.if_icmp .ge 158, 3) := by decide +kernel
theorem dX11_underIn_27 : decode cX11_underIn 27 = .ok (.aload_n 0, 1) := by decide +kernel
theorem dX11_underIn_28 : decode cX11_underIn 28 = .ok (.getfield 40, 3) := by decide +kernel
theorem dX11_underIn_31 : decode cX11_underIn 31 = .ok (.bipush 52, 2) := by decide +kernel
theorem dX11_underIn_33 : decode cX11_underIn 33 = .ok (.iload_n 3, 1) := by decide +kernel
theorem dX11_underIn_34 : decode cX11_underIn 34 = .ok (.imul, 1) := by decide +kernel
theorem dX11_underIn_35 : decode cX11_underIn 35 = .ok (.iload 4, 2) := by decide +kernel
theorem dX11_underIn_37 : decode cX11_underIn 37 = .ok (.iadd, 1) := by decide +kernel
theorem dX11_underIn_38 : decode cX11_underIn 38 = .ok (.iaload, 1) := by decide +kernel
theorem dX11_underIn_39 : decode cX11_underIn 39 = .ok (.istore 5, 2) := by decide +kernel
theorem dX11_underIn_41 : decode cX11_underIn 41 = .ok (.aload_n 0, 1) := by decide +kernel
theorem dX11_underIn_42 : decode cX11_underIn 42 = .ok (.aload_n 0, 1) := by decide +kernel
theorem dX11_underIn_43 : decode cX11_underIn 43 = .ok (.getfield 40, 3) := by decide +kernel
theorem dX11_underIn_46 : decode cX11_underIn 46 = .ok (.bipush 52, 2) := by decide +kernel
theorem dX11_underIn_48 : decode cX11_underIn 48 = .ok (.iload_n 3, 1) := by decide +kernel
theorem dX11_underIn_49 : decode cX11_underIn 49 = .ok (.imul, 1) := by decide +kernel
theorem dX11_underIn_50 : decode cX11_underIn 50 = .ok (.iload 4, 2) := by decide +kernel
theorem dX11_underIn_52 : decode cX11_underIn 52 = .ok (.invokevirtual 209, 3) := by decide +kernel
theorem dX11_underIn_55 : decode cX11_underIn 55 = .ok (.istore 6, 2) := by decide +kernel
theorem dX11_underIn_57 : decode cX11_underIn 57 = .ok (.aload_n 0, 1) := by decide +kernel
theorem dX11_underIn_58 : decode cX11_underIn 58 = .ok (.getfield 40, 3) := by decide +kernel
theorem dX11_underIn_61 : decode cX11_underIn 61 = .ok (.bipush 52, 2) := by decide +kernel
theorem dX11_underIn_63 : decode cX11_underIn 63 = .ok (.iload_n 3, 1) := by decide +kernel
theorem dX11_underIn_64 : decode cX11_underIn 64 = .ok (.imul, 1) := by decide +kernel
theorem dX11_underIn_65 : decode cX11_underIn 65 = .ok (.iconst 4, 1) := by decide +kernel
theorem dX11_underIn_66 : decode cX11_underIn 66 = .ok (.iadd, 1) := by decide +kernel
theorem dX11_underIn_67 : decode cX11_underIn 67 = .ok (.iload 4, 2) := by decide +kernel
theorem dX11_underIn_69 : decode cX11_underIn 69 = .ok (.iadd, 1) := by decide +kernel
theorem dX11_underIn_70 : decode cX11_underIn 70 = .ok (.iaload, 1) := by decide +kernel
theorem dX11_underIn_71 : decode cX11_underIn 71 = .ok (.ifCond .ne 43, 3) := by decide +kernel
theorem dX11_underIn_74 : decode cX11_underIn 74 = .ok (.iload 6, 2) := by decide +kernel
theorem dX11_underIn_76 : decode cX11_underIn 76 = .ok (.iload_n 1, 1) := by decide +kernel
theorem dX11_underIn_77 : decode cX11_underIn 77 = .ok (.invokestatic 282, 3) := by decide +kernel
theorem dX11_underIn_80 : decode cX11_underIn 80 = .ok (.ifCond .eq 34, 3) := by decide +kernel
theorem dX11_underIn_83 : decode cX11_underIn 83 = .ok (.iload 5, 2) := by decide +kernel
theorem dX11_underIn_85 : decode cX11_underIn 85 = .ok (.aload_n 0, 1) := by decide +kernel
theorem dX11_underIn_86 : decode cX11_underIn 86 = .ok (.getfield 9, 3) := by decide +kernel
theorem dX11_underIn_89 : decode cX11_underIn 89 = .ok (.bipush 57, 2) := by decide +kernel
theorem dX11_underIn_91 : decode cX11_underIn 91 = .ok (.iload 4, 2) := by decide +kernel
theorem dX11_underIn_93 : decode cX11_underIn 93 = .ok (.iadd, 1) := by decide +kernel
theorem dX11_underIn_94 : decode cX11_underIn 94 = .ok (.iaload, 1) := by decide +kernel
theorem dX11_underIn_95 : decode cX11_underIn 95 = .ok (.if_icmp .ge 19, 3) := by decide +kernel
theorem dX11_underIn_98 : decode cX11_underIn 98 = .ok (.aload_n 0, 1) := by decide +kernel
theorem dX11_underIn_99 : decode cX11_underIn 99 = .ok (.iload 4, 2) := by decide +kernel
theorem dX11_underIn_101 : decode cX11_underIn 101 = .ok (.iload 5, 2) := by decide +kernel
theorem dX11_underIn_103 : decode cX11_underIn 103 = .ok (.iconst 0, 1) := by decide +kernel
theorem dX11_underIn_104 : decode cX11_underIn 104 = .ok (.invokevirtual 150, 3) := by decide +kernel
theorem dX11_underIn_107 : decode cX11_underIn 107 = .ok (.ifCond .ne 7, 3) := by decide +kernel
theorem dX11_underIn_110 : decode cX11_underIn 110 = .ok (.iconst 1, 1) := by decide +kernel
theorem dX11_underIn_111 : decode cX11_underIn 111 = .ok (.goto 4, 3) := by decide +kernel
theorem dX11_underIn_114 : decode cX11_underIn 114 = .ok (.iconst 0, 1) := by decide +kernel
theorem dX11_underIn_115 : decode cX11_underIn 115 = .ok (.istore 7, 2) := by decide +kernel
theorem dX11_underIn_117 : decode cX11_underIn 117 = .ok (.iload 7, 2) := by decide +kernel
theorem dX11_underIn_119 : decode cX11_underIn 119 = .ok (.ifCond .eq 15, 3) := by decide +kernel
theorem dX11_underIn_122 : decode cX11_underIn 122 = .ok (.aload_n 0, 1) := by decide +kernel
theorem dX11_underIn_123 : decode cX11_underIn 123 = .ok (.iload 4, 2) := by decide +kernel
theorem dX11_underIn_125 : decode cX11_underIn 125 = .ok (.iload 5, 2) := by decide +kernel
theorem dX11_underIn_127 : decode cX11_underIn 127 = .ok (.iconst 1, 1) := by decide +kernel
theorem dX11_underIn_128 : decode cX11_underIn 128 = .ok (.invokevirtual 150, 3) := by decide +kernel
theorem dX11_underIn_131 : decode cX11_underIn 131 = .ok (.goto 4, 3) := by decide +kernel
theorem dX11_underIn_134 : decode cX11_underIn 134 = .ok (.iload_n 1, 1) := by decide +kernel
theorem dX11_underIn_135 : decode cX11_underIn 135 = .ok (.istore 8, 2) := by decide +kernel
theorem dX11_underIn_137 : decode cX11_underIn 137 = .ok (.iload_n 2, 1) := by decide +kernel
theorem dX11_underIn_138 : decode cX11_underIn 138 = .ok (.iload 7, 2) := by decide +kernel
theorem dX11_underIn_140 : decode cX11_underIn 140 = .ok (.ifCond .eq 33, 3) := by decide +kernel
theorem dX11_underIn_143 : decode cX11_underIn 143 = .ok (.iload 6, 2) := by decide +kernel
theorem dX11_underIn_145 : decode cX11_underIn 145 = .ok (.iload 8, 2) := by decide +kernel
theorem dX11_underIn_147 : decode cX11_underIn 147 = .ok (.invokestatic 282, 3) := by decide +kernel
theorem dX11_underIn_150 : decode cX11_underIn 150 = .ok (.ifCond .ne 23, 3) := by decide +kernel
theorem dX11_underIn_153 : decode cX11_underIn 153 = .ok (.aload_n 0, 1) := by decide +kernel
theorem dX11_underIn_154 : decode cX11_underIn 154 = .ok (.getfield 9, 3) := by decide +kernel
theorem dX11_underIn_157 : decode cX11_underIn 157 = .ok (.bipush 53, 2) := by decide +kernel
theorem dX11_underIn_159 : decode cX11_underIn 159 = .ok (.iload 8, 2) := by decide +kernel
theorem dX11_underIn_161 : decode cX11_underIn 161 = .ok (.iadd, 1) := by decide +kernel
theorem dX11_underIn_162 : decode cX11_underIn 162 = .ok (.iaload, 1) := by decide +kernel
theorem dX11_underIn_163 : decode cX11_underIn 163 = .ok (.ifCond .ne 10, 3) := by decide +kernel
theorem dX11_underIn_166 : decode cX11_underIn 166 = .ok (.iconst 1, 1) := by decide +kernel
theorem dX11_underIn_167 : decode cX11_underIn 167 = .ok (.iload 8, 2) := by decide +kernel
theorem dX11_underIn_169 : decode cX11_underIn 169 = .ok (.ishl, 1) := by decide +kernel
theorem dX11_underIn_170 : decode cX11_underIn 170 = .ok (.goto 4, 3) := by decide +kernel
theorem dX11_underIn_173 : decode cX11_underIn 173 = .ok (.iconst 0, 1) := by decide +kernel
theorem dX11_underIn_174 : decode cX11_underIn 174 = .ok (.ior, 1) := by decide +kernel
theorem dX11_underIn_175 : decode cX11_underIn 175 = .ok (.istore_n 2, 1) := by decide +kernel
theorem dX11_underIn_176 : decode cX11_underIn 176 = .ok (.iinc 4 1, 3) := by decide +kernel
theorem dX11_underIn_179 : decode cX11_underIn 179 = .ok (.goto (-164), 3) := by decide +kernel
theorem dX11_underIn_182 : decode cX11_underIn 182 = .ok (.iinc 3 1, 3) := by decide +kernel
theorem dX11_underIn_185 : decode cX11_underIn 185 = .ok (.goto (-181), 3) := by decide +kernel
theorem dX11_underIn_188 : decode cX11_underIn 188 = .ok (.iload_n 2, 1) := by decide +kernel
theorem dX11_underIn_189 : decode cX11_underIn 189 = .ok (.ireturn, 1) := by decide +kernel
theorem dX11_word_0 : decode cX11_word 0 = .ok (.aload_n 0, 1) := by decide +kernel
theorem dX11_word_1 : decode cX11_word 1 = .ok (.getfield 89, 3) := by decide +kernel
theorem dX11_word_4 : decode cX11_word 4 = .ok (.istore_n 1, 1) := by decide +kernel
theorem dX11_word_5 : decode cX11_word 5 = .ok (.aload_n 0, 1) := by decide +kernel
theorem dX11_word_6 : decode cX11_word 6 = .ok (.invokevirtual 95, 3) := by decide +kernel
theorem dX11_word_9 : decode cX11_word 9 = .ok (.i2l, 1) := by decide +kernel
theorem dX11_word_10 : decode cX11_word 10 = .ok (.ldc2_w 103, 3) := by decide +kernel
theorem dX11_word_13 : decode cX11_word 13 = .ok (.ldc2_w 105, 3) := by decide +kernel
theorem dX11_word_16 : decode cX11_word 16 = .ok (.invokestatic 64, 3) := by decide +kernel
theorem dX11_word_19 : decode cX11_word 19 = .ok (.ifCond .eq 16, 3) := by decide +kernel
theorem dX11_word_22 : decode cX11_word 22 = .ok (.aload_n 0, 1) := by decide +kernel
theorem dX11_word_23 : decode cX11_word 23 = .ok (.dup, 1) := by decide +kernel
theorem dX11_word_24 : decode cX11_word 24 = .ok (.getfield 89, 3) := by decide +kernel
theorem dX11_word_27 : decode cX11_word 27 = .ok (.iconst 1, 1) := by decide +kernel
theorem dX11_word_28 : decode cX11_word 28 = .ok (.iadd, 1) := by decide +kernel
theorem dX11_word_29 : decode cX11_word 29 = .ok (.putfield 89, 3) := by decide +kernel
theorem dX11_word_32 : decode cX11_word 32 = .ok (.goto (-27), 3) := by decide +kernel
theorem dX11_word_35 : decode cX11_word 35 = .ok (.iconst (-1), 1) := by decide +kernel
theorem dX11_word_36 : decode cX11_word 36 = .ok (.istore_n 2, 1) := by decide +kernel
theorem dX11_word_37 : decode cX11_word 37 = .ok (.iconst 0, 1) := by decide +kernel
theorem dX11_word_38 : decode cX11_word 38 = .ok (.istore_n 3, 1) := by decide +kernel
theorem dX11_word_39 : decode cX11_word 39 = .ok (.iload_n 3, 1) := by decide +kernel
theorem dX11_word_40 : decode cX11_word 40 = .ok (.bipush 9, 2) := by decide +kernel
theorem dX11_word_42 : decode cX11_word 42 = .ok (.if_icmp .ge 24, 3) := by decide +kernel
theorem dX11_word_45 : decode cX11_word 45 = .ok (.aload_n 0, 1) := by decide +kernel
theorem dX11_word_46 : decode cX11_word 46 = .ok (.iload_n 3, 1) := by decide +kernel
theorem dX11_word_47 : decode cX11_word 47 = .ok (.iload_n 1, 1) := by decide +kernel
theorem dX11_word_48 : decode cX11_word 48 = .ok (.invokevirtual 107, 3) := by decide +kernel
theorem dX11_word_51 : decode cX11_word 51 = .ok (.ifCond .eq 7, 3) := by decide +kernel
theorem dX11_word_54 : decode cX11_word 54 = .ok (.iload_n 3, 1) := by decide +kernel
theorem dX11_word_55 : decode cX11_word 55 = .ok (.goto 4, 3) := by decide +kernel
theorem dX11_word_58 : decode cX11_word 58 = .ok (.iload_n 2, 1) := by decide +kernel
theorem dX11_word_59 : decode cX11_word 59 = .ok (.istore_n 2, 1) := by decide +kernel
theorem dX11_word_60 : decode cX11_word 60 = .ok (.iinc 3 1, 3) := by decide +kernel
theorem dX11_word_63 : decode cX11_word 63 = .ok (.goto (-24), 3) := by decide +kernel
theorem dX11_word_66 : decode cX11_word 66 = .ok (.aload_n 0, 1) := by decide +kernel
theorem dX11_word_67 : decode cX11_word 67 = .ok (.iload_n 2, 1) := by decide +kernel
theorem dX11_word_68 : decode cX11_word 68 = .ok (.ifCond .lt 7, 3) := by decide +kernel
theorem dX11_word_71 : decode cX11_word 71 = .ok (.iconst 1, 1) := by decide +kernel
theorem dX11_word_72 : decode cX11_word 72 = .ok (.goto 4, 3) := by decide +kernel
theorem dX11_word_75 : decode cX11_word 75 = .ok (.iconst 0, 1) := by decide +kernel
theorem dX11_word_76 : decode cX11_word 76 = .ok (.iload_n 1, 1) := by decide +kernel
theorem dX11_word_77 : decode cX11_word 77 = .ok (.invokevirtual 99, 3) := by decide +kernel
theorem dX11_word_80 : decode cX11_word 80 = .ok (.iload_n 2, 1) := by decide +kernel
theorem dX11_word_81 : decode cX11_word 81 = .ok (.ireturn, 1) := by decide +kernel
end
section
theorem dL_law_0 : decode cL_law 0 = .ok (.new 7, 3) := by decide +kernel
theorem dL_law_3 : decode cL_law 3 = .ok (.dup, 1) := by decide +kernel
theorem dL_law_4 : decode cL_law 4 = .ok (.invokespecial 9, 3) := by decide +kernel
theorem dL_law_7 : decode cL_law 7 = .ok (.astore_n 1, 1) := by decide +kernel
theorem dL_law_8 : decode cL_law 8 = .ok (.new 10, 3) := by decide +kernel
theorem dL_law_11 : decode cL_law 11 = .ok (.dup, 1) := by decide +kernel
theorem dL_law_12 : decode cL_law 12 = .ok (.invokespecial 12, 3) := by decide +kernel
theorem dL_law_15 : decode cL_law 15 = .ok (.astore_n 2, 1) := by decide +kernel
theorem dL_law_16 : decode cL_law 16 = .ok (.iconst 0, 1) := by decide +kernel
theorem dL_law_17 : decode cL_law 17 = .ok (.istore_n 3, 1) := by decide +kernel
theorem dL_law_18 : decode cL_law 18 = .ok (.iload_n 3, 1) := by decide +kernel
theorem dL_law_19 : decode cL_law 19 = .ok (.aload_n 0, 1) := by decide +kernel
theorem dL_law_20 : decode cL_law 20 = .ok (.arraylength, 1) := by decide +kernel
theorem dL_law_21 : decode cL_law 21 = .ok (.iconst 4, 1) := by decide +kernel
theorem dL_law_22 : decode cL_law 22 = .ok (.isub, 1) := by decide +kernel
theorem dL_law_23 : decode cL_law 23 = .ok (.if_icmp .gt 1034, 3) := by decide +kernel
theorem dL_law_26 : decode cL_law 26 = .ok (.aload_n 0, 1) := by decide +kernel
theorem dL_law_27 : decode cL_law 27 = .ok (.iload_n 3, 1) := by decide +kernel
theorem dL_law_28 : decode cL_law 28 = .ok (.iaload, 1) := by decide +kernel
theorem dL_law_29 : decode cL_law 29 = .ok (.bipush 31, 2) := by decide +kernel
theorem dL_law_31 : decode cL_law 31 = .ok (.iand, 1) := by decide +kernel
theorem dL_law_32 : decode cL_law 32 = .ok (.tableswitch 1019 0 30 #[140, 153, 166, 215, 248, 271, 294, 307, 330, 373, 396, 429, 472, 505, 538, 581, 604, 627, 660, 683, 716, 759, 792, 815, 828, 871, 884, 917, 960, 993, 1006], 140) := by decide +kernel
theorem dL_law_172 : decode cL_law 172 = .ok (.aload_n 1, 1) := by decide +kernel
theorem dL_law_173 : decode cL_law 173 = .ok (.invokevirtual 13, 3) := by decide +kernel
theorem dL_law_176 : decode cL_law 176 = .ok (.aload_n 2, 1) := by decide +kernel
theorem dL_law_177 : decode cL_law 177 = .ok (.invokevirtual 17, 3) := by decide +kernel
theorem dL_law_180 : decode cL_law 180 = .ok (.if_icmp .eq 871, 3) := by decide +kernel
theorem dL_law_183 : decode cL_law 183 = .ok (.iconst 0, 1) := by decide +kernel
theorem dL_law_184 : decode cL_law 184 = .ok (.ireturn, 1) := by decide +kernel
theorem dL_law_185 : decode cL_law 185 = .ok (.aload_n 1, 1) := by decide +kernel
theorem dL_law_186 : decode cL_law 186 = .ok (.invokevirtual 18, 3) := by decide +kernel
theorem dL_law_189 : decode cL_law 189 = .ok (.aload_n 2, 1) := by decide +kernel
theorem dL_law_190 : decode cL_law 190 = .ok (.invokevirtual 21, 3) := by decide +kernel
theorem dL_law_193 : decode cL_law 193 = .ok (.if_icmp .eq 858, 3) := by decide +kernel
theorem dL_law_196 : decode cL_law 196 = .ok (.iconst 0, 1) := by decide +kernel
theorem dL_law_197 : decode cL_law 197 = .ok (.ireturn, 1) := by decide +kernel
theorem dL_law_198 : decode cL_law 198 = .ok (.aload_n 1, 1) := by decide +kernel
theorem dL_law_199 : decode cL_law 199 = .ok (.aload_n 0, 1) := by decide +kernel
theorem dL_law_200 : decode cL_law 200 = .ok (.iload_n 3, 1) := by decide +kernel
theorem dL_law_201 : decode cL_law 201 = .ok (.iconst 1, 1) := by decide +kernel
theorem dL_law_202 : decode cL_law 202 = .ok (.iadd, 1) := by decide +kernel
theorem dL_law_203 : decode cL_law 203 = .ok (.iaload, 1) := by decide +kernel
theorem dL_law_204 : decode cL_law 204 = .ok (.aload_n 0, 1) := by decide +kernel
theorem dL_law_205 : decode cL_law 205 = .ok (.iload_n 3, 1) := by decide +kernel
theorem dL_law_206 : decode cL_law 206 = .ok (.iconst 2, 1) := by decide +kernel
theorem dL_law_207 : decode cL_law 207 = .ok (.iadd, 1) := by decide +kernel
theorem dL_law_208 : decode cL_law 208 = .ok (.iaload, 1) := by decide +kernel
theorem dL_law_209 : decode cL_law 209 = .ok (.ifCond .eq 7, 3) := by decide +kernel
theorem dL_law_212 : decode cL_law 212 = .ok (.iconst 1, 1) := by decide +kernel
theorem dL_law_213 : decode cL_law 213 = .ok (.goto 4, 3) := by decide +kernel
theorem dL_law_216 : decode cL_law 216 = .ok (.iconst 0, 1) := by decide +kernel
theorem dL_law_217 : decode cL_law 217 = .ok (.invokevirtual 22, 3) := by decide +kernel
theorem dL_law_220 : decode cL_law 220 = .ok (.aload_n 2, 1) := by decide +kernel
theorem dL_law_221 : decode cL_law 221 = .ok (.aload_n 0, 1) := by decide +kernel
theorem dL_law_222 : decode cL_law 222 = .ok (.iload_n 3, 1) := by decide +kernel
theorem dL_law_223 : decode cL_law 223 = .ok (.iconst 1, 1) := by decide +kernel
theorem dL_law_224 : decode cL_law 224 = .ok (.iadd, 1) := by decide +kernel
theorem dL_law_225 : decode cL_law 225 = .ok (.iaload, 1) := by decide +kernel
theorem dL_law_226 : decode cL_law 226 = .ok (.aload_n 0, 1) := by decide +kernel
theorem dL_law_227 : decode cL_law 227 = .ok (.iload_n 3, 1) := by decide +kernel
theorem dL_law_228 : decode cL_law 228 = .ok (.iconst 2, 1) := by decide +kernel
theorem dL_law_229 : decode cL_law 229 = .ok (.iadd, 1) := by decide +kernel
theorem dL_law_230 : decode cL_law 230 = .ok (.iaload, 1) := by decide +kernel
theorem dL_law_231 : decode cL_law 231 = .ok (.ifCond .eq 7, 3) := by decide +kernel
theorem dL_law_234 : decode cL_law 234 = .ok (.iconst 1, 1) := by decide +kernel
theorem dL_law_235 : decode cL_law 235 = .ok (.goto 4, 3) := by decide +kernel
theorem dL_law_238 : decode cL_law 238 = .ok (.iconst 0, 1) := by decide +kernel
theorem dL_law_239 : decode cL_law 239 = .ok (.invokevirtual 26, 3) := by decide +kernel
theorem dL_law_242 : decode cL_law 242 = .ok (.if_icmp .eq 809, 3) := by decide +kernel
theorem dL_law_245 : decode cL_law 245 = .ok (.iconst 0, 1) := by decide +kernel
theorem dL_law_246 : decode cL_law 246 = .ok (.ireturn, 1) := by decide +kernel
theorem dL_law_247 : decode cL_law 247 = .ok (.aload_n 1, 1) := by decide +kernel
theorem dL_law_248 : decode cL_law 248 = .ok (.aload_n 0, 1) := by decide +kernel
theorem dL_law_249 : decode cL_law 249 = .ok (.iload_n 3, 1) := by decide +kernel
theorem dL_law_250 : decode cL_law 250 = .ok (.iconst 1, 1) := by decide +kernel
theorem dL_law_251 : decode cL_law 251 = .ok (.iadd, 1) := by decide +kernel
theorem dL_law_252 : decode cL_law 252 = .ok (.iaload, 1) := by decide +kernel
theorem dL_law_253 : decode cL_law 253 = .ok (.aload_n 0, 1) := by decide +kernel
theorem dL_law_254 : decode cL_law 254 = .ok (.iload_n 3, 1) := by decide +kernel
theorem dL_law_255 : decode cL_law 255 = .ok (.iconst 2, 1) := by decide +kernel
theorem dL_law_256 : decode cL_law 256 = .ok (.iadd, 1) := by decide +kernel
theorem dL_law_257 : decode cL_law 257 = .ok (.iaload, 1) := by decide +kernel
theorem dL_law_258 : decode cL_law 258 = .ok (.invokevirtual 27, 3) := by decide +kernel
theorem dL_law_261 : decode cL_law 261 = .ok (.aload_n 2, 1) := by decide +kernel
theorem dL_law_262 : decode cL_law 262 = .ok (.aload_n 0, 1) := by decide +kernel
theorem dL_law_263 : decode cL_law 263 = .ok (.iload_n 3, 1) := by decide +kernel
theorem dL_law_264 : decode cL_law 264 = .ok (.iconst 1, 1) := by decide +kernel
theorem dL_law_265 : decode cL_law 265 = .ok (.iadd, 1) := by decide +kernel
theorem dL_law_266 : decode cL_law 266 = .ok (.iaload, 1) := by decide +kernel
theorem dL_law_267 : decode cL_law 267 = .ok (.aload_n 0, 1) := by decide +kernel
theorem dL_law_268 : decode cL_law 268 = .ok (.iload_n 3, 1) := by decide +kernel
theorem dL_law_269 : decode cL_law 269 = .ok (.iconst 2, 1) := by decide +kernel
theorem dL_law_270 : decode cL_law 270 = .ok (.iadd, 1) := by decide +kernel
theorem dL_law_271 : decode cL_law 271 = .ok (.iaload, 1) := by decide +kernel
theorem dL_law_272 : decode cL_law 272 = .ok (.invokevirtual 31, 3) := by decide +kernel
theorem dL_law_275 : decode cL_law 275 = .ok (.if_icmp .eq 776, 3) := by decide +kernel
theorem dL_law_278 : decode cL_law 278 = .ok (.iconst 0, 1) := by decide +kernel
theorem dL_law_279 : decode cL_law 279 = .ok (.ireturn, 1) := by decide +kernel
theorem dL_law_280 : decode cL_law 280 = .ok (.aload_n 1, 1) := by decide +kernel
theorem dL_law_281 : decode cL_law 281 = .ok (.aload_n 0, 1) := by decide +kernel
theorem dL_law_282 : decode cL_law 282 = .ok (.iload_n 3, 1) := by decide +kernel
theorem dL_law_283 : decode cL_law 283 = .ok (.iconst 1, 1) := by decide +kernel
theorem dL_law_284 : decode cL_law 284 = .ok (.iadd, 1) := by decide +kernel
theorem dL_law_285 : decode cL_law 285 = .ok (.iaload, 1) := by decide +kernel
theorem dL_law_286 : decode cL_law 286 = .ok (.invokevirtual 32, 3) := by decide +kernel
theorem dL_law_289 : decode cL_law 289 = .ok (.aload_n 2, 1) := by decide +kernel
theorem dL_law_290 : decode cL_law 290 = .ok (.aload_n 0, 1) := by decide +kernel
theorem dL_law_291 : decode cL_law 291 = .ok (.iload_n 3, 1) := by decide +kernel
theorem dL_law_292 : decode cL_law 292 = .ok (.iconst 1, 1) := by decide +kernel
theorem dL_law_293 : decode cL_law 293 = .ok (.iadd, 1) := by decide +kernel
theorem dL_law_294 : decode cL_law 294 = .ok (.iaload, 1) := by decide +kernel
theorem dL_law_295 : decode cL_law 295 = .ok (.invokevirtual 36, 3) := by decide +kernel
theorem dL_law_298 : decode cL_law 298 = .ok (.if_icmp .eq 753, 3) := by decide +kernel
theorem dL_law_301 : decode cL_law 301 = .ok (.iconst 0, 1) := by decide +kernel
theorem dL_law_302 : decode cL_law 302 = .ok (.ireturn, 1) := by decide +kernel
theorem dL_law_303 : decode cL_law 303 = .ok (.aload_n 1, 1) := by decide +kernel
theorem dL_law_304 : decode cL_law 304 = .ok (.aload_n 0, 1) := by decide +kernel
theorem dL_law_305 : decode cL_law 305 = .ok (.iload_n 3, 1) := by decide +kernel
theorem dL_law_306 : decode cL_law 306 = .ok (.iconst 1, 1) := by decide +kernel
theorem dL_law_307 : decode cL_law 307 = .ok (.iadd, 1) := by decide +kernel
theorem dL_law_308 : decode cL_law 308 = .ok (.iaload, 1) := by decide +kernel
theorem dL_law_309 : decode cL_law 309 = .ok (.invokevirtual 37, 3) := by decide +kernel
theorem dL_law_312 : decode cL_law 312 = .ok (.aload_n 2, 1) := by decide +kernel
theorem dL_law_313 : decode cL_law 313 = .ok (.aload_n 0, 1) := by decide +kernel
theorem dL_law_314 : decode cL_law 314 = .ok (.iload_n 3, 1) := by decide +kernel
theorem dL_law_315 : decode cL_law 315 = .ok (.iconst 1, 1) := by decide +kernel
theorem dL_law_316 : decode cL_law 316 = .ok (.iadd, 1) := by decide +kernel
theorem dL_law_317 : decode cL_law 317 = .ok (.iaload, 1) := by decide +kernel
theorem dL_law_318 : decode cL_law 318 = .ok (.invokevirtual 40, 3) := by decide +kernel
theorem dL_law_321 : decode cL_law 321 = .ok (.if_icmp .eq 730, 3) := by decide +kernel
theorem dL_law_324 : decode cL_law 324 = .ok (.iconst 0, 1) := by decide +kernel
theorem dL_law_325 : decode cL_law 325 = .ok (.ireturn, 1) := by decide +kernel
theorem dL_law_326 : decode cL_law 326 = .ok (.aload_n 1, 1) := by decide +kernel
theorem dL_law_327 : decode cL_law 327 = .ok (.invokevirtual 41, 3) := by decide +kernel
theorem dL_law_330 : decode cL_law 330 = .ok (.aload_n 2, 1) := by decide +kernel
theorem dL_law_331 : decode cL_law 331 = .ok (.invokevirtual 44, 3) := by decide +kernel
theorem dL_law_334 : decode cL_law 334 = .ok (.if_icmp .eq 717, 3) := by decide +kernel
theorem dL_law_337 : decode cL_law 337 = .ok (.iconst 0, 1) := by decide +kernel
theorem dL_law_338 : decode cL_law 338 = .ok (.ireturn, 1) := by decide +kernel
theorem dL_law_339 : decode cL_law 339 = .ok (.aload_n 1, 1) := by decide +kernel
theorem dL_law_340 : decode cL_law 340 = .ok (.aload_n 0, 1) := by decide +kernel
theorem dL_law_341 : decode cL_law 341 = .ok (.iload_n 3, 1) := by decide +kernel
theorem dL_law_342 : decode cL_law 342 = .ok (.iconst 1, 1) := by decide +kernel
theorem dL_law_343 : decode cL_law 343 = .ok (.iadd, 1) := by decide +kernel
theorem dL_law_344 : decode cL_law 344 = .ok (.iaload, 1) := by decide +kernel
theorem dL_law_345 : decode cL_law 345 = .ok (.invokevirtual 45, 3) := by decide +kernel
theorem dL_law_348 : decode cL_law 348 = .ok (.aload_n 2, 1) := by decide +kernel
theorem dL_law_349 : decode cL_law 349 = .ok (.aload_n 0, 1) := by decide +kernel
theorem dL_law_350 : decode cL_law 350 = .ok (.iload_n 3, 1) := by decide +kernel
theorem dL_law_351 : decode cL_law 351 = .ok (.iconst 1, 1) := by decide +kernel
theorem dL_law_352 : decode cL_law 352 = .ok (.iadd, 1) := by decide +kernel
theorem dL_law_353 : decode cL_law 353 = .ok (.iaload, 1) := by decide +kernel
theorem dL_law_354 : decode cL_law 354 = .ok (.invokevirtual 48, 3) := by decide +kernel
theorem dL_law_357 : decode cL_law 357 = .ok (.if_icmp .eq 694, 3) := by decide +kernel
theorem dL_law_360 : decode cL_law 360 = .ok (.iconst 0, 1) := by decide +kernel
theorem dL_law_361 : decode cL_law 361 = .ok (.ireturn, 1) := by decide +kernel
theorem dL_law_362 : decode cL_law 362 = .ok (.aload_n 1, 1) := by decide +kernel
theorem dL_law_363 : decode cL_law 363 = .ok (.aload_n 0, 1) := by decide +kernel
theorem dL_law_364 : decode cL_law 364 = .ok (.iload_n 3, 1) := by decide +kernel
theorem dL_law_365 : decode cL_law 365 = .ok (.iconst 1, 1) := by decide +kernel
theorem dL_law_366 : decode cL_law 366 = .ok (.iadd, 1) := by decide +kernel
theorem dL_law_367 : decode cL_law 367 = .ok (.iaload, 1) := by decide +kernel
theorem dL_law_368 : decode cL_law 368 = .ok (.aload_n 0, 1) := by decide +kernel
theorem dL_law_369 : decode cL_law 369 = .ok (.iload_n 3, 1) := by decide +kernel
theorem dL_law_370 : decode cL_law 370 = .ok (.iconst 2, 1) := by decide +kernel
theorem dL_law_371 : decode cL_law 371 = .ok (.iadd, 1) := by decide +kernel
theorem dL_law_372 : decode cL_law 372 = .ok (.iaload, 1) := by decide +kernel
theorem dL_law_373 : decode cL_law 373 = .ok (.aload_n 0, 1) := by decide +kernel
theorem dL_law_374 : decode cL_law 374 = .ok (.iload_n 3, 1) := by decide +kernel
theorem dL_law_375 : decode cL_law 375 = .ok (.iconst 3, 1) := by decide +kernel
theorem dL_law_376 : decode cL_law 376 = .ok (.iadd, 1) := by decide +kernel
theorem dL_law_377 : decode cL_law 377 = .ok (.iaload, 1) := by decide +kernel
theorem dL_law_378 : decode cL_law 378 = .ok (.invokevirtual 49, 3) := by decide +kernel
theorem dL_law_381 : decode cL_law 381 = .ok (.aload_n 2, 1) := by decide +kernel
theorem dL_law_382 : decode cL_law 382 = .ok (.aload_n 0, 1) := by decide +kernel
theorem dL_law_383 : decode cL_law 383 = .ok (.iload_n 3, 1) := by decide +kernel
theorem dL_law_384 : decode cL_law 384 = .ok (.iconst 1, 1) := by decide +kernel
theorem dL_law_385 : decode cL_law 385 = .ok (.iadd, 1) := by decide +kernel
theorem dL_law_386 : decode cL_law 386 = .ok (.iaload, 1) := by decide +kernel
theorem dL_law_387 : decode cL_law 387 = .ok (.aload_n 0, 1) := by decide +kernel
theorem dL_law_388 : decode cL_law 388 = .ok (.iload_n 3, 1) := by decide +kernel
theorem dL_law_389 : decode cL_law 389 = .ok (.iconst 2, 1) := by decide +kernel
theorem dL_law_390 : decode cL_law 390 = .ok (.iadd, 1) := by decide +kernel
theorem dL_law_391 : decode cL_law 391 = .ok (.iaload, 1) := by decide +kernel
theorem dL_law_392 : decode cL_law 392 = .ok (.aload_n 0, 1) := by decide +kernel
theorem dL_law_393 : decode cL_law 393 = .ok (.iload_n 3, 1) := by decide +kernel
theorem dL_law_394 : decode cL_law 394 = .ok (.iconst 3, 1) := by decide +kernel
theorem dL_law_395 : decode cL_law 395 = .ok (.iadd, 1) := by decide +kernel
theorem dL_law_396 : decode cL_law 396 = .ok (.iaload, 1) := by decide +kernel
theorem dL_law_397 : decode cL_law 397 = .ok (.invokevirtual 53, 3) := by decide +kernel
theorem dL_law_400 : decode cL_law 400 = .ok (.if_icmp .eq 651, 3) := by decide +kernel
theorem dL_law_403 : decode cL_law 403 = .ok (.iconst 0, 1) := by decide +kernel
theorem dL_law_404 : decode cL_law 404 = .ok (.ireturn, 1) := by decide +kernel
theorem dL_law_405 : decode cL_law 405 = .ok (.aload_n 1, 1) := by decide +kernel
theorem dL_law_406 : decode cL_law 406 = .ok (.aload_n 0, 1) := by decide +kernel
theorem dL_law_407 : decode cL_law 407 = .ok (.iload_n 3, 1) := by decide +kernel
theorem dL_law_408 : decode cL_law 408 = .ok (.iconst 1, 1) := by decide +kernel
theorem dL_law_409 : decode cL_law 409 = .ok (.iadd, 1) := by decide +kernel
theorem dL_law_410 : decode cL_law 410 = .ok (.iaload, 1) := by decide +kernel
theorem dL_law_411 : decode cL_law 411 = .ok (.invokevirtual 54, 3) := by decide +kernel
theorem dL_law_414 : decode cL_law 414 = .ok (.aload_n 2, 1) := by decide +kernel
theorem dL_law_415 : decode cL_law 415 = .ok (.aload_n 0, 1) := by decide +kernel
theorem dL_law_416 : decode cL_law 416 = .ok (.iload_n 3, 1) := by decide +kernel
theorem dL_law_417 : decode cL_law 417 = .ok (.iconst 1, 1) := by decide +kernel
theorem dL_law_418 : decode cL_law 418 = .ok (.iadd, 1) := by decide +kernel
theorem dL_law_419 : decode cL_law 419 = .ok (.iaload, 1) := by decide +kernel
theorem dL_law_420 : decode cL_law 420 = .ok (.invokevirtual 57, 3) := by decide +kernel
theorem dL_law_423 : decode cL_law 423 = .ok (.if_icmp .eq 628, 3) := by decide +kernel
theorem dL_law_426 : decode cL_law 426 = .ok (.iconst 0, 1) := by decide +kernel
theorem dL_law_427 : decode cL_law 427 = .ok (.ireturn, 1) := by decide +kernel
theorem dL_law_428 : decode cL_law 428 = .ok (.aload_n 1, 1) := by decide +kernel
theorem dL_law_429 : decode cL_law 429 = .ok (.aload_n 0, 1) := by decide +kernel
theorem dL_law_430 : decode cL_law 430 = .ok (.iload_n 3, 1) := by decide +kernel
theorem dL_law_431 : decode cL_law 431 = .ok (.iconst 1, 1) := by decide +kernel
theorem dL_law_432 : decode cL_law 432 = .ok (.iadd, 1) := by decide +kernel
theorem dL_law_433 : decode cL_law 433 = .ok (.iaload, 1) := by decide +kernel
theorem dL_law_434 : decode cL_law 434 = .ok (.aload_n 0, 1) := by decide +kernel
theorem dL_law_435 : decode cL_law 435 = .ok (.iload_n 3, 1) := by decide +kernel
theorem dL_law_436 : decode cL_law 436 = .ok (.iconst 2, 1) := by decide +kernel
theorem dL_law_437 : decode cL_law 437 = .ok (.iadd, 1) := by decide +kernel
theorem dL_law_438 : decode cL_law 438 = .ok (.iaload, 1) := by decide +kernel
theorem dL_law_439 : decode cL_law 439 = .ok (.invokevirtual 58, 3) := by decide +kernel
theorem dL_law_442 : decode cL_law 442 = .ok (.aload_n 2, 1) := by decide +kernel
theorem dL_law_443 : decode cL_law 443 = .ok (.aload_n 0, 1) := by decide +kernel
theorem dL_law_444 : decode cL_law 444 = .ok (.iload_n 3, 1) := by decide +kernel
theorem dL_law_445 : decode cL_law 445 = .ok (.iconst 1, 1) := by decide +kernel
theorem dL_law_446 : decode cL_law 446 = .ok (.iadd, 1) := by decide +kernel
theorem dL_law_447 : decode cL_law 447 = .ok (.iaload, 1) := by decide +kernel
theorem dL_law_448 : decode cL_law 448 = .ok (.aload_n 0, 1) := by decide +kernel
theorem dL_law_449 : decode cL_law 449 = .ok (.iload_n 3, 1) := by decide +kernel
theorem dL_law_450 : decode cL_law 450 = .ok (.iconst 2, 1) := by decide +kernel
theorem dL_law_451 : decode cL_law 451 = .ok (.iadd, 1) := by decide +kernel
theorem dL_law_452 : decode cL_law 452 = .ok (.iaload, 1) := by decide +kernel
theorem dL_law_453 : decode cL_law 453 = .ok (.invokevirtual 61, 3) := by decide +kernel
theorem dL_law_456 : decode cL_law 456 = .ok (.if_icmp .eq 595, 3) := by decide +kernel
theorem dL_law_459 : decode cL_law 459 = .ok (.iconst 0, 1) := by decide +kernel
theorem dL_law_460 : decode cL_law 460 = .ok (.ireturn, 1) := by decide +kernel
theorem dL_law_461 : decode cL_law 461 = .ok (.aload_n 1, 1) := by decide +kernel
theorem dL_law_462 : decode cL_law 462 = .ok (.aload_n 0, 1) := by decide +kernel
theorem dL_law_463 : decode cL_law 463 = .ok (.iload_n 3, 1) := by decide +kernel
theorem dL_law_464 : decode cL_law 464 = .ok (.iconst 1, 1) := by decide +kernel
theorem dL_law_465 : decode cL_law 465 = .ok (.iadd, 1) := by decide +kernel
theorem dL_law_466 : decode cL_law 466 = .ok (.iaload, 1) := by decide +kernel
theorem dL_law_467 : decode cL_law 467 = .ok (.aload_n 0, 1) := by decide +kernel
theorem dL_law_468 : decode cL_law 468 = .ok (.iload_n 3, 1) := by decide +kernel
theorem dL_law_469 : decode cL_law 469 = .ok (.iconst 2, 1) := by decide +kernel
theorem dL_law_470 : decode cL_law 470 = .ok (.iadd, 1) := by decide +kernel
theorem dL_law_471 : decode cL_law 471 = .ok (.iaload, 1) := by decide +kernel
theorem dL_law_472 : decode cL_law 472 = .ok (.aload_n 0, 1) := by decide +kernel
theorem dL_law_473 : decode cL_law 473 = .ok (.iload_n 3, 1) := by decide +kernel
theorem dL_law_474 : decode cL_law 474 = .ok (.iconst 3, 1) := by decide +kernel
theorem dL_law_475 : decode cL_law 475 = .ok (.iadd, 1) := by decide +kernel
theorem dL_law_476 : decode cL_law 476 = .ok (.iaload, 1) := by decide +kernel
theorem dL_law_477 : decode cL_law 477 = .ok (.invokevirtual 62, 3) := by decide +kernel
theorem dL_law_480 : decode cL_law 480 = .ok (.aload_n 2, 1) := by decide +kernel
theorem dL_law_481 : decode cL_law 481 = .ok (.aload_n 0, 1) := by decide +kernel
theorem dL_law_482 : decode cL_law 482 = .ok (.iload_n 3, 1) := by decide +kernel
theorem dL_law_483 : decode cL_law 483 = .ok (.iconst 1, 1) := by decide +kernel
theorem dL_law_484 : decode cL_law 484 = .ok (.iadd, 1) := by decide +kernel
theorem dL_law_485 : decode cL_law 485 = .ok (.iaload, 1) := by decide +kernel
theorem dL_law_486 : decode cL_law 486 = .ok (.aload_n 0, 1) := by decide +kernel
theorem dL_law_487 : decode cL_law 487 = .ok (.iload_n 3, 1) := by decide +kernel
theorem dL_law_488 : decode cL_law 488 = .ok (.iconst 2, 1) := by decide +kernel
theorem dL_law_489 : decode cL_law 489 = .ok (.iadd, 1) := by decide +kernel
theorem dL_law_490 : decode cL_law 490 = .ok (.iaload, 1) := by decide +kernel
theorem dL_law_491 : decode cL_law 491 = .ok (.aload_n 0, 1) := by decide +kernel
theorem dL_law_492 : decode cL_law 492 = .ok (.iload_n 3, 1) := by decide +kernel
theorem dL_law_493 : decode cL_law 493 = .ok (.iconst 3, 1) := by decide +kernel
theorem dL_law_494 : decode cL_law 494 = .ok (.iadd, 1) := by decide +kernel
theorem dL_law_495 : decode cL_law 495 = .ok (.iaload, 1) := by decide +kernel
theorem dL_law_496 : decode cL_law 496 = .ok (.invokevirtual 65, 3) := by decide +kernel
theorem dL_law_499 : decode cL_law 499 = .ok (.if_icmp .eq 552, 3) := by decide +kernel
theorem dL_law_502 : decode cL_law 502 = .ok (.iconst 0, 1) := by decide +kernel
theorem dL_law_503 : decode cL_law 503 = .ok (.ireturn, 1) := by decide +kernel
theorem dL_law_504 : decode cL_law 504 = .ok (.aload_n 1, 1) := by decide +kernel
theorem dL_law_505 : decode cL_law 505 = .ok (.aload_n 0, 1) := by decide +kernel
theorem dL_law_506 : decode cL_law 506 = .ok (.iload_n 3, 1) := by decide +kernel
theorem dL_law_507 : decode cL_law 507 = .ok (.iconst 1, 1) := by decide +kernel
theorem dL_law_508 : decode cL_law 508 = .ok (.iadd, 1) := by decide +kernel
theorem dL_law_509 : decode cL_law 509 = .ok (.iaload, 1) := by decide +kernel
theorem dL_law_510 : decode cL_law 510 = .ok (.aload_n 0, 1) := by decide +kernel
theorem dL_law_511 : decode cL_law 511 = .ok (.iload_n 3, 1) := by decide +kernel
theorem dL_law_512 : decode cL_law 512 = .ok (.iconst 2, 1) := by decide +kernel
theorem dL_law_513 : decode cL_law 513 = .ok (.iadd, 1) := by decide +kernel
theorem dL_law_514 : decode cL_law 514 = .ok (.iaload, 1) := by decide +kernel
theorem dL_law_515 : decode cL_law 515 = .ok (.invokevirtual 66, 3) := by decide +kernel
theorem dL_law_518 : decode cL_law 518 = .ok (.aload_n 2, 1) := by decide +kernel
theorem dL_law_519 : decode cL_law 519 = .ok (.aload_n 0, 1) := by decide +kernel
theorem dL_law_520 : decode cL_law 520 = .ok (.iload_n 3, 1) := by decide +kernel
theorem dL_law_521 : decode cL_law 521 = .ok (.iconst 1, 1) := by decide +kernel
theorem dL_law_522 : decode cL_law 522 = .ok (.iadd, 1) := by decide +kernel
theorem dL_law_523 : decode cL_law 523 = .ok (.iaload, 1) := by decide +kernel
theorem dL_law_524 : decode cL_law 524 = .ok (.aload_n 0, 1) := by decide +kernel
theorem dL_law_525 : decode cL_law 525 = .ok (.iload_n 3, 1) := by decide +kernel
theorem dL_law_526 : decode cL_law 526 = .ok (.iconst 2, 1) := by decide +kernel
theorem dL_law_527 : decode cL_law 527 = .ok (.iadd, 1) := by decide +kernel
theorem dL_law_528 : decode cL_law 528 = .ok (.iaload, 1) := by decide +kernel
theorem dL_law_529 : decode cL_law 529 = .ok (.invokevirtual 69, 3) := by decide +kernel
theorem dL_law_532 : decode cL_law 532 = .ok (.if_icmp .eq 519, 3) := by decide +kernel
theorem dL_law_535 : decode cL_law 535 = .ok (.iconst 0, 1) := by decide +kernel
theorem dL_law_536 : decode cL_law 536 = .ok (.ireturn, 1) := by decide +kernel
theorem dL_law_537 : decode cL_law 537 = .ok (.aload_n 1, 1) := by decide +kernel
theorem dL_law_538 : decode cL_law 538 = .ok (.aload_n 0, 1) := by decide +kernel
theorem dL_law_539 : decode cL_law 539 = .ok (.iload_n 3, 1) := by decide +kernel
theorem dL_law_540 : decode cL_law 540 = .ok (.iconst 1, 1) := by decide +kernel
theorem dL_law_541 : decode cL_law 541 = .ok (.iadd, 1) := by decide +kernel
theorem dL_law_542 : decode cL_law 542 = .ok (.iaload, 1) := by decide +kernel
theorem dL_law_543 : decode cL_law 543 = .ok (.aload_n 0, 1) := by decide +kernel
theorem dL_law_544 : decode cL_law 544 = .ok (.iload_n 3, 1) := by decide +kernel
theorem dL_law_545 : decode cL_law 545 = .ok (.iconst 2, 1) := by decide +kernel
theorem dL_law_546 : decode cL_law 546 = .ok (.iadd, 1) := by decide +kernel
theorem dL_law_547 : decode cL_law 547 = .ok (.iaload, 1) := by decide +kernel
theorem dL_law_548 : decode cL_law 548 = .ok (.invokevirtual 70, 3) := by decide +kernel
theorem dL_law_551 : decode cL_law 551 = .ok (.aload_n 2, 1) := by decide +kernel
theorem dL_law_552 : decode cL_law 552 = .ok (.aload_n 0, 1) := by decide +kernel
theorem dL_law_553 : decode cL_law 553 = .ok (.iload_n 3, 1) := by decide +kernel
theorem dL_law_554 : decode cL_law 554 = .ok (.iconst 1, 1) := by decide +kernel
theorem dL_law_555 : decode cL_law 555 = .ok (.iadd, 1) := by decide +kernel
theorem dL_law_556 : decode cL_law 556 = .ok (.iaload, 1) := by decide +kernel
theorem dL_law_557 : decode cL_law 557 = .ok (.aload_n 0, 1) := by decide +kernel
theorem dL_law_558 : decode cL_law 558 = .ok (.iload_n 3, 1) := by decide +kernel
theorem dL_law_559 : decode cL_law 559 = .ok (.iconst 2, 1) := by decide +kernel
theorem dL_law_560 : decode cL_law 560 = .ok (.iadd, 1) := by decide +kernel
theorem dL_law_561 : decode cL_law 561 = .ok (.iaload, 1) := by decide +kernel
theorem dL_law_562 : decode cL_law 562 = .ok (.invokevirtual 73, 3) := by decide +kernel
theorem dL_law_565 : decode cL_law 565 = .ok (.if_icmp .eq 486, 3) := by decide +kernel
theorem dL_law_568 : decode cL_law 568 = .ok (.iconst 0, 1) := by decide +kernel
theorem dL_law_569 : decode cL_law 569 = .ok (.ireturn, 1) := by decide +kernel
theorem dL_law_570 : decode cL_law 570 = .ok (.aload_n 1, 1) := by decide +kernel
theorem dL_law_571 : decode cL_law 571 = .ok (.aload_n 0, 1) := by decide +kernel
theorem dL_law_572 : decode cL_law 572 = .ok (.iload_n 3, 1) := by decide +kernel
theorem dL_law_573 : decode cL_law 573 = .ok (.iconst 1, 1) := by decide +kernel
theorem dL_law_574 : decode cL_law 574 = .ok (.iadd, 1) := by decide +kernel
theorem dL_law_575 : decode cL_law 575 = .ok (.iaload, 1) := by decide +kernel
theorem dL_law_576 : decode cL_law 576 = .ok (.aload_n 0, 1) := by decide +kernel
theorem dL_law_577 : decode cL_law 577 = .ok (.iload_n 3, 1) := by decide +kernel
theorem dL_law_578 : decode cL_law 578 = .ok (.iconst 2, 1) := by decide +kernel
theorem dL_law_579 : decode cL_law 579 = .ok (.iadd, 1) := by decide +kernel
theorem dL_law_580 : decode cL_law 580 = .ok (.iaload, 1) := by decide +kernel
theorem dL_law_581 : decode cL_law 581 = .ok (.aload_n 0, 1) := by decide +kernel
theorem dL_law_582 : decode cL_law 582 = .ok (.iload_n 3, 1) := by decide +kernel
theorem dL_law_583 : decode cL_law 583 = .ok (.iconst 3, 1) := by decide +kernel
theorem dL_law_584 : decode cL_law 584 = .ok (.iadd, 1) := by decide +kernel
theorem dL_law_585 : decode cL_law 585 = .ok (.iaload, 1) := by decide +kernel
theorem dL_law_586 : decode cL_law 586 = .ok (.invokevirtual 74, 3) := by decide +kernel
theorem dL_law_589 : decode cL_law 589 = .ok (.aload_n 2, 1) := by decide +kernel
theorem dL_law_590 : decode cL_law 590 = .ok (.aload_n 0, 1) := by decide +kernel
theorem dL_law_591 : decode cL_law 591 = .ok (.iload_n 3, 1) := by decide +kernel
theorem dL_law_592 : decode cL_law 592 = .ok (.iconst 1, 1) := by decide +kernel
theorem dL_law_593 : decode cL_law 593 = .ok (.iadd, 1) := by decide +kernel
theorem dL_law_594 : decode cL_law 594 = .ok (.iaload, 1) := by decide +kernel
theorem dL_law_595 : decode cL_law 595 = .ok (.aload_n 0, 1) := by decide +kernel
theorem dL_law_596 : decode cL_law 596 = .ok (.iload_n 3, 1) := by decide +kernel
theorem dL_law_597 : decode cL_law 597 = .ok (.iconst 2, 1) := by decide +kernel
theorem dL_law_598 : decode cL_law 598 = .ok (.iadd, 1) := by decide +kernel
theorem dL_law_599 : decode cL_law 599 = .ok (.iaload, 1) := by decide +kernel
theorem dL_law_600 : decode cL_law 600 = .ok (.aload_n 0, 1) := by decide +kernel
theorem dL_law_601 : decode cL_law 601 = .ok (.iload_n 3, 1) := by decide +kernel
theorem dL_law_602 : decode cL_law 602 = .ok (.iconst 3, 1) := by decide +kernel
theorem dL_law_603 : decode cL_law 603 = .ok (.iadd, 1) := by decide +kernel
theorem dL_law_604 : decode cL_law 604 = .ok (.iaload, 1) := by decide +kernel
theorem dL_law_605 : decode cL_law 605 = .ok (.invokevirtual 77, 3) := by decide +kernel
theorem dL_law_608 : decode cL_law 608 = .ok (.if_icmp .eq 443, 3) := by decide +kernel
theorem dL_law_611 : decode cL_law 611 = .ok (.iconst 0, 1) := by decide +kernel
theorem dL_law_612 : decode cL_law 612 = .ok (.ireturn, 1) := by decide +kernel
theorem dL_law_613 : decode cL_law 613 = .ok (.aload_n 1, 1) := by decide +kernel
theorem dL_law_614 : decode cL_law 614 = .ok (.aload_n 0, 1) := by decide +kernel
theorem dL_law_615 : decode cL_law 615 = .ok (.iload_n 3, 1) := by decide +kernel
theorem dL_law_616 : decode cL_law 616 = .ok (.iconst 1, 1) := by decide +kernel
theorem dL_law_617 : decode cL_law 617 = .ok (.iadd, 1) := by decide +kernel
theorem dL_law_618 : decode cL_law 618 = .ok (.iaload, 1) := by decide +kernel
theorem dL_law_619 : decode cL_law 619 = .ok (.invokevirtual 78, 3) := by decide +kernel
theorem dL_law_622 : decode cL_law 622 = .ok (.aload_n 2, 1) := by decide +kernel
theorem dL_law_623 : decode cL_law 623 = .ok (.aload_n 0, 1) := by decide +kernel
theorem dL_law_624 : decode cL_law 624 = .ok (.iload_n 3, 1) := by decide +kernel
theorem dL_law_625 : decode cL_law 625 = .ok (.iconst 1, 1) := by decide +kernel
theorem dL_law_626 : decode cL_law 626 = .ok (.iadd, 1) := by decide +kernel
theorem dL_law_627 : decode cL_law 627 = .ok (.iaload, 1) := by decide +kernel
theorem dL_law_628 : decode cL_law 628 = .ok (.invokevirtual 81, 3) := by decide +kernel
theorem dL_law_631 : decode cL_law 631 = .ok (.if_icmp .eq 420, 3) := by decide +kernel
theorem dL_law_634 : decode cL_law 634 = .ok (.iconst 0, 1) := by decide +kernel
theorem dL_law_635 : decode cL_law 635 = .ok (.ireturn, 1) := by decide +kernel
theorem dL_law_636 : decode cL_law 636 = .ok (.aload_n 1, 1) := by decide +kernel
theorem dL_law_637 : decode cL_law 637 = .ok (.aload_n 0, 1) := by decide +kernel
theorem dL_law_638 : decode cL_law 638 = .ok (.iload_n 3, 1) := by decide +kernel
theorem dL_law_639 : decode cL_law 639 = .ok (.iconst 1, 1) := by decide +kernel
theorem dL_law_640 : decode cL_law 640 = .ok (.iadd, 1) := by decide +kernel
theorem dL_law_641 : decode cL_law 641 = .ok (.iaload, 1) := by decide +kernel
theorem dL_law_642 : decode cL_law 642 = .ok (.invokevirtual 82, 3) := by decide +kernel
theorem dL_law_645 : decode cL_law 645 = .ok (.aload_n 2, 1) := by decide +kernel
theorem dL_law_646 : decode cL_law 646 = .ok (.aload_n 0, 1) := by decide +kernel
theorem dL_law_647 : decode cL_law 647 = .ok (.iload_n 3, 1) := by decide +kernel
theorem dL_law_648 : decode cL_law 648 = .ok (.iconst 1, 1) := by decide +kernel
theorem dL_law_649 : decode cL_law 649 = .ok (.iadd, 1) := by decide +kernel
theorem dL_law_650 : decode cL_law 650 = .ok (.iaload, 1) := by decide +kernel
theorem dL_law_651 : decode cL_law 651 = .ok (.invokevirtual 85, 3) := by decide +kernel
theorem dL_law_654 : decode cL_law 654 = .ok (.if_icmp .eq 397, 3) := by decide +kernel
theorem dL_law_657 : decode cL_law 657 = .ok (.iconst 0, 1) := by decide +kernel
theorem dL_law_658 : decode cL_law 658 = .ok (.ireturn, 1) := by decide +kernel
theorem dL_law_659 : decode cL_law 659 = .ok (.aload_n 1, 1) := by decide +kernel
theorem dL_law_660 : decode cL_law 660 = .ok (.aload_n 0, 1) := by decide +kernel
theorem dL_law_661 : decode cL_law 661 = .ok (.iload_n 3, 1) := by decide +kernel
theorem dL_law_662 : decode cL_law 662 = .ok (.iconst 1, 1) := by decide +kernel
theorem dL_law_663 : decode cL_law 663 = .ok (.iadd, 1) := by decide +kernel
theorem dL_law_664 : decode cL_law 664 = .ok (.iaload, 1) := by decide +kernel
theorem dL_law_665 : decode cL_law 665 = .ok (.aload_n 0, 1) := by decide +kernel
theorem dL_law_666 : decode cL_law 666 = .ok (.iload_n 3, 1) := by decide +kernel
theorem dL_law_667 : decode cL_law 667 = .ok (.iconst 2, 1) := by decide +kernel
theorem dL_law_668 : decode cL_law 668 = .ok (.iadd, 1) := by decide +kernel
theorem dL_law_669 : decode cL_law 669 = .ok (.iaload, 1) := by decide +kernel
theorem dL_law_670 : decode cL_law 670 = .ok (.invokevirtual 86, 3) := by decide +kernel
theorem dL_law_673 : decode cL_law 673 = .ok (.aload_n 2, 1) := by decide +kernel
theorem dL_law_674 : decode cL_law 674 = .ok (.aload_n 0, 1) := by decide +kernel
theorem dL_law_675 : decode cL_law 675 = .ok (.iload_n 3, 1) := by decide +kernel
theorem dL_law_676 : decode cL_law 676 = .ok (.iconst 1, 1) := by decide +kernel
theorem dL_law_677 : decode cL_law 677 = .ok (.iadd, 1) := by decide +kernel
theorem dL_law_678 : decode cL_law 678 = .ok (.iaload, 1) := by decide +kernel
theorem dL_law_679 : decode cL_law 679 = .ok (.aload_n 0, 1) := by decide +kernel
theorem dL_law_680 : decode cL_law 680 = .ok (.iload_n 3, 1) := by decide +kernel
theorem dL_law_681 : decode cL_law 681 = .ok (.iconst 2, 1) := by decide +kernel
theorem dL_law_682 : decode cL_law 682 = .ok (.iadd, 1) := by decide +kernel
theorem dL_law_683 : decode cL_law 683 = .ok (.iaload, 1) := by decide +kernel
theorem dL_law_684 : decode cL_law 684 = .ok (.invokevirtual 89, 3) := by decide +kernel
theorem dL_law_687 : decode cL_law 687 = .ok (.if_icmp .eq 364, 3) := by decide +kernel
theorem dL_law_690 : decode cL_law 690 = .ok (.iconst 0, 1) := by decide +kernel
theorem dL_law_691 : decode cL_law 691 = .ok (.ireturn, 1) := by decide +kernel
theorem dL_law_692 : decode cL_law 692 = .ok (.aload_n 1, 1) := by decide +kernel
theorem dL_law_693 : decode cL_law 693 = .ok (.aload_n 0, 1) := by decide +kernel
theorem dL_law_694 : decode cL_law 694 = .ok (.iload_n 3, 1) := by decide +kernel
theorem dL_law_695 : decode cL_law 695 = .ok (.iconst 1, 1) := by decide +kernel
theorem dL_law_696 : decode cL_law 696 = .ok (.iadd, 1) := by decide +kernel
theorem dL_law_697 : decode cL_law 697 = .ok (.iaload, 1) := by decide +kernel
theorem dL_law_698 : decode cL_law 698 = .ok (.invokevirtual 90, 3) := by decide +kernel
theorem dL_law_701 : decode cL_law 701 = .ok (.aload_n 2, 1) := by decide +kernel
theorem dL_law_702 : decode cL_law 702 = .ok (.aload_n 0, 1) := by decide +kernel
theorem dL_law_703 : decode cL_law 703 = .ok (.iload_n 3, 1) := by decide +kernel
theorem dL_law_704 : decode cL_law 704 = .ok (.iconst 1, 1) := by decide +kernel
theorem dL_law_705 : decode cL_law 705 = .ok (.iadd, 1) := by decide +kernel
theorem dL_law_706 : decode cL_law 706 = .ok (.iaload, 1) := by decide +kernel
theorem dL_law_707 : decode cL_law 707 = .ok (.invokevirtual 93, 3) := by decide +kernel
theorem dL_law_710 : decode cL_law 710 = .ok (.if_icmp .eq 341, 3) := by decide +kernel
theorem dL_law_713 : decode cL_law 713 = .ok (.iconst 0, 1) := by decide +kernel
theorem dL_law_714 : decode cL_law 714 = .ok (.ireturn, 1) := by decide +kernel
theorem dL_law_715 : decode cL_law 715 = .ok (.aload_n 1, 1) := by decide +kernel
theorem dL_law_716 : decode cL_law 716 = .ok (.aload_n 0, 1) := by decide +kernel
theorem dL_law_717 : decode cL_law 717 = .ok (.iload_n 3, 1) := by decide +kernel
theorem dL_law_718 : decode cL_law 718 = .ok (.iconst 1, 1) := by decide +kernel
theorem dL_law_719 : decode cL_law 719 = .ok (.iadd, 1) := by decide +kernel
theorem dL_law_720 : decode cL_law 720 = .ok (.iaload, 1) := by decide +kernel
theorem dL_law_721 : decode cL_law 721 = .ok (.aload_n 0, 1) := by decide +kernel
theorem dL_law_722 : decode cL_law 722 = .ok (.iload_n 3, 1) := by decide +kernel
theorem dL_law_723 : decode cL_law 723 = .ok (.iconst 2, 1) := by decide +kernel
theorem dL_law_724 : decode cL_law 724 = .ok (.iadd, 1) := by decide +kernel
theorem dL_law_725 : decode cL_law 725 = .ok (.iaload, 1) := by decide +kernel
theorem dL_law_726 : decode cL_law 726 = .ok (.invokevirtual 94, 3) := by decide +kernel
theorem dL_law_729 : decode cL_law 729 = .ok (.aload_n 2, 1) := by decide +kernel
theorem dL_law_730 : decode cL_law 730 = .ok (.aload_n 0, 1) := by decide +kernel
theorem dL_law_731 : decode cL_law 731 = .ok (.iload_n 3, 1) := by decide +kernel
theorem dL_law_732 : decode cL_law 732 = .ok (.iconst 1, 1) := by decide +kernel
theorem dL_law_733 : decode cL_law 733 = .ok (.iadd, 1) := by decide +kernel
theorem dL_law_734 : decode cL_law 734 = .ok (.iaload, 1) := by decide +kernel
theorem dL_law_735 : decode cL_law 735 = .ok (.aload_n 0, 1) := by decide +kernel
theorem dL_law_736 : decode cL_law 736 = .ok (.iload_n 3, 1) := by decide +kernel
theorem dL_law_737 : decode cL_law 737 = .ok (.iconst 2, 1) := by decide +kernel
theorem dL_law_738 : decode cL_law 738 = .ok (.iadd, 1) := by decide +kernel
theorem dL_law_739 : decode cL_law 739 = .ok (.iaload, 1) := by decide +kernel
theorem dL_law_740 : decode cL_law 740 = .ok (.invokevirtual 97, 3) := by decide +kernel
theorem dL_law_743 : decode cL_law 743 = .ok (.if_icmp .eq 308, 3) := by decide +kernel
theorem dL_law_746 : decode cL_law 746 = .ok (.iconst 0, 1) := by decide +kernel
theorem dL_law_747 : decode cL_law 747 = .ok (.ireturn, 1) := by decide +kernel
theorem dL_law_748 : decode cL_law 748 = .ok (.aload_n 1, 1) := by decide +kernel
theorem dL_law_749 : decode cL_law 749 = .ok (.aload_n 0, 1) := by decide +kernel
theorem dL_law_750 : decode cL_law 750 = .ok (.iload_n 3, 1) := by decide +kernel
theorem dL_law_751 : decode cL_law 751 = .ok (.iconst 1, 1) := by decide +kernel
theorem dL_law_752 : decode cL_law 752 = .ok (.iadd, 1) := by decide +kernel
theorem dL_law_753 : decode cL_law 753 = .ok (.iaload, 1) := by decide +kernel
theorem dL_law_754 : decode cL_law 754 = .ok (.aload_n 0, 1) := by decide +kernel
theorem dL_law_755 : decode cL_law 755 = .ok (.iload_n 3, 1) := by decide +kernel
theorem dL_law_756 : decode cL_law 756 = .ok (.iconst 2, 1) := by decide +kernel
theorem dL_law_757 : decode cL_law 757 = .ok (.iadd, 1) := by decide +kernel
theorem dL_law_758 : decode cL_law 758 = .ok (.iaload, 1) := by decide +kernel
theorem dL_law_759 : decode cL_law 759 = .ok (.aload_n 0, 1) := by decide +kernel
theorem dL_law_760 : decode cL_law 760 = .ok (.iload_n 3, 1) := by decide +kernel
theorem dL_law_761 : decode cL_law 761 = .ok (.iconst 3, 1) := by decide +kernel
theorem dL_law_762 : decode cL_law 762 = .ok (.iadd, 1) := by decide +kernel
theorem dL_law_763 : decode cL_law 763 = .ok (.iaload, 1) := by decide +kernel
theorem dL_law_764 : decode cL_law 764 = .ok (.invokevirtual 98, 3) := by decide +kernel
theorem dL_law_767 : decode cL_law 767 = .ok (.aload_n 2, 1) := by decide +kernel
theorem dL_law_768 : decode cL_law 768 = .ok (.aload_n 0, 1) := by decide +kernel
theorem dL_law_769 : decode cL_law 769 = .ok (.iload_n 3, 1) := by decide +kernel
theorem dL_law_770 : decode cL_law 770 = .ok (.iconst 1, 1) := by decide +kernel
theorem dL_law_771 : decode cL_law 771 = .ok (.iadd, 1) := by decide +kernel
theorem dL_law_772 : decode cL_law 772 = .ok (.iaload, 1) := by decide +kernel
theorem dL_law_773 : decode cL_law 773 = .ok (.aload_n 0, 1) := by decide +kernel
theorem dL_law_774 : decode cL_law 774 = .ok (.iload_n 3, 1) := by decide +kernel
theorem dL_law_775 : decode cL_law 775 = .ok (.iconst 2, 1) := by decide +kernel
theorem dL_law_776 : decode cL_law 776 = .ok (.iadd, 1) := by decide +kernel
theorem dL_law_777 : decode cL_law 777 = .ok (.iaload, 1) := by decide +kernel
theorem dL_law_778 : decode cL_law 778 = .ok (.aload_n 0, 1) := by decide +kernel
theorem dL_law_779 : decode cL_law 779 = .ok (.iload_n 3, 1) := by decide +kernel
theorem dL_law_780 : decode cL_law 780 = .ok (.iconst 3, 1) := by decide +kernel
theorem dL_law_781 : decode cL_law 781 = .ok (.iadd, 1) := by decide +kernel
theorem dL_law_782 : decode cL_law 782 = .ok (.iaload, 1) := by decide +kernel
theorem dL_law_783 : decode cL_law 783 = .ok (.invokevirtual 101, 3) := by decide +kernel
theorem dL_law_786 : decode cL_law 786 = .ok (.if_icmp .eq 265, 3) := by decide +kernel
theorem dL_law_789 : decode cL_law 789 = .ok (.iconst 0, 1) := by decide +kernel
theorem dL_law_790 : decode cL_law 790 = .ok (.ireturn, 1) := by decide +kernel
theorem dL_law_791 : decode cL_law 791 = .ok (.aload_n 1, 1) := by decide +kernel
theorem dL_law_792 : decode cL_law 792 = .ok (.aload_n 0, 1) := by decide +kernel
theorem dL_law_793 : decode cL_law 793 = .ok (.iload_n 3, 1) := by decide +kernel
theorem dL_law_794 : decode cL_law 794 = .ok (.iconst 1, 1) := by decide +kernel
theorem dL_law_795 : decode cL_law 795 = .ok (.iadd, 1) := by decide +kernel
theorem dL_law_796 : decode cL_law 796 = .ok (.iaload, 1) := by decide +kernel
theorem dL_law_797 : decode cL_law 797 = .ok (.aload_n 0, 1) := by decide +kernel
theorem dL_law_798 : decode cL_law 798 = .ok (.iload_n 3, 1) := by decide +kernel
theorem dL_law_799 : decode cL_law 799 = .ok (.iconst 2, 1) := by decide +kernel
theorem dL_law_800 : decode cL_law 800 = .ok (.iadd, 1) := by decide +kernel
theorem dL_law_801 : decode cL_law 801 = .ok (.iaload, 1) := by decide +kernel
theorem dL_law_802 : decode cL_law 802 = .ok (.invokevirtual 102, 3) := by decide +kernel
theorem dL_law_805 : decode cL_law 805 = .ok (.aload_n 2, 1) := by decide +kernel
theorem dL_law_806 : decode cL_law 806 = .ok (.aload_n 0, 1) := by decide +kernel
theorem dL_law_807 : decode cL_law 807 = .ok (.iload_n 3, 1) := by decide +kernel
theorem dL_law_808 : decode cL_law 808 = .ok (.iconst 1, 1) := by decide +kernel
theorem dL_law_809 : decode cL_law 809 = .ok (.iadd, 1) := by decide +kernel
theorem dL_law_810 : decode cL_law 810 = .ok (.iaload, 1) := by decide +kernel
theorem dL_law_811 : decode cL_law 811 = .ok (.aload_n 0, 1) := by decide +kernel
theorem dL_law_812 : decode cL_law 812 = .ok (.iload_n 3, 1) := by decide +kernel
theorem dL_law_813 : decode cL_law 813 = .ok (.iconst 2, 1) := by decide +kernel
theorem dL_law_814 : decode cL_law 814 = .ok (.iadd, 1) := by decide +kernel
theorem dL_law_815 : decode cL_law 815 = .ok (.iaload, 1) := by decide +kernel
theorem dL_law_816 : decode cL_law 816 = .ok (.invokevirtual 105, 3) := by decide +kernel
theorem dL_law_819 : decode cL_law 819 = .ok (.if_icmp .eq 232, 3) := by decide +kernel
theorem dL_law_822 : decode cL_law 822 = .ok (.iconst 0, 1) := by decide +kernel
theorem dL_law_823 : decode cL_law 823 = .ok (.ireturn, 1) := by decide +kernel
theorem dL_law_824 : decode cL_law 824 = .ok (.aload_n 1, 1) := by decide +kernel
theorem dL_law_825 : decode cL_law 825 = .ok (.aload_n 0, 1) := by decide +kernel
theorem dL_law_826 : decode cL_law 826 = .ok (.iload_n 3, 1) := by decide +kernel
theorem dL_law_827 : decode cL_law 827 = .ok (.iconst 1, 1) := by decide +kernel
theorem dL_law_828 : decode cL_law 828 = .ok (.iadd, 1) := by decide +kernel
theorem dL_law_829 : decode cL_law 829 = .ok (.iaload, 1) := by decide +kernel
theorem dL_law_830 : decode cL_law 830 = .ok (.invokevirtual 106, 3) := by decide +kernel
theorem dL_law_833 : decode cL_law 833 = .ok (.aload_n 2, 1) := by decide +kernel
theorem dL_law_834 : decode cL_law 834 = .ok (.aload_n 0, 1) := by decide +kernel
theorem dL_law_835 : decode cL_law 835 = .ok (.iload_n 3, 1) := by decide +kernel
theorem dL_law_836 : decode cL_law 836 = .ok (.iconst 1, 1) := by decide +kernel
theorem dL_law_837 : decode cL_law 837 = .ok (.iadd, 1) := by decide +kernel
theorem dL_law_838 : decode cL_law 838 = .ok (.iaload, 1) := by decide +kernel
theorem dL_law_839 : decode cL_law 839 = .ok (.invokevirtual 109, 3) := by decide +kernel
theorem dL_law_842 : decode cL_law 842 = .ok (.if_icmp .eq 209, 3) := by decide +kernel
theorem dL_law_845 : decode cL_law 845 = .ok (.iconst 0, 1) := by decide +kernel
theorem dL_law_846 : decode cL_law 846 = .ok (.ireturn, 1) := by decide +kernel
theorem dL_law_847 : decode cL_law 847 = .ok (.aload_n 1, 1) := by decide +kernel
theorem dL_law_848 : decode cL_law 848 = .ok (.invokevirtual 110, 3) := by decide +kernel
theorem dL_law_851 : decode cL_law 851 = .ok (.aload_n 2, 1) := by decide +kernel
theorem dL_law_852 : decode cL_law 852 = .ok (.invokevirtual 113, 3) := by decide +kernel
theorem dL_law_855 : decode cL_law 855 = .ok (.if_icmp .eq 196, 3) := by decide +kernel
theorem dL_law_858 : decode cL_law 858 = .ok (.iconst 0, 1) := by decide +kernel
theorem dL_law_859 : decode cL_law 859 = .ok (.ireturn, 1) := by decide +kernel
theorem dL_law_860 : decode cL_law 860 = .ok (.aload_n 1, 1) := by decide +kernel
theorem dL_law_861 : decode cL_law 861 = .ok (.aload_n 0, 1) := by decide +kernel
theorem dL_law_862 : decode cL_law 862 = .ok (.iload_n 3, 1) := by decide +kernel
theorem dL_law_863 : decode cL_law 863 = .ok (.iconst 1, 1) := by decide +kernel
theorem dL_law_864 : decode cL_law 864 = .ok (.iadd, 1) := by decide +kernel
theorem dL_law_865 : decode cL_law 865 = .ok (.iaload, 1) := by decide +kernel
theorem dL_law_866 : decode cL_law 866 = .ok (.aload_n 0, 1) := by decide +kernel
theorem dL_law_867 : decode cL_law 867 = .ok (.iload_n 3, 1) := by decide +kernel
theorem dL_law_868 : decode cL_law 868 = .ok (.iconst 2, 1) := by decide +kernel
theorem dL_law_869 : decode cL_law 869 = .ok (.iadd, 1) := by decide +kernel
theorem dL_law_870 : decode cL_law 870 = .ok (.iaload, 1) := by decide +kernel
theorem dL_law_871 : decode cL_law 871 = .ok (.aload_n 0, 1) := by decide +kernel
theorem dL_law_872 : decode cL_law 872 = .ok (.iload_n 3, 1) := by decide +kernel
theorem dL_law_873 : decode cL_law 873 = .ok (.iconst 3, 1) := by decide +kernel
theorem dL_law_874 : decode cL_law 874 = .ok (.iadd, 1) := by decide +kernel
theorem dL_law_875 : decode cL_law 875 = .ok (.iaload, 1) := by decide +kernel
theorem dL_law_876 : decode cL_law 876 = .ok (.invokevirtual 114, 3) := by decide +kernel
theorem dL_law_879 : decode cL_law 879 = .ok (.aload_n 2, 1) := by decide +kernel
theorem dL_law_880 : decode cL_law 880 = .ok (.aload_n 0, 1) := by decide +kernel
theorem dL_law_881 : decode cL_law 881 = .ok (.iload_n 3, 1) := by decide +kernel
theorem dL_law_882 : decode cL_law 882 = .ok (.iconst 1, 1) := by decide +kernel
theorem dL_law_883 : decode cL_law 883 = .ok (.iadd, 1) := by decide +kernel
theorem dL_law_884 : decode cL_law 884 = .ok (.iaload, 1) := by decide +kernel
theorem dL_law_885 : decode cL_law 885 = .ok (.aload_n 0, 1) := by decide +kernel
theorem dL_law_886 : decode cL_law 886 = .ok (.iload_n 3, 1) := by decide +kernel
theorem dL_law_887 : decode cL_law 887 = .ok (.iconst 2, 1) := by decide +kernel
theorem dL_law_888 : decode cL_law 888 = .ok (.iadd, 1) := by decide +kernel
theorem dL_law_889 : decode cL_law 889 = .ok (.iaload, 1) := by decide +kernel
theorem dL_law_890 : decode cL_law 890 = .ok (.aload_n 0, 1) := by decide +kernel
theorem dL_law_891 : decode cL_law 891 = .ok (.iload_n 3, 1) := by decide +kernel
theorem dL_law_892 : decode cL_law 892 = .ok (.iconst 3, 1) := by decide +kernel
theorem dL_law_893 : decode cL_law 893 = .ok (.iadd, 1) := by decide +kernel
theorem dL_law_894 : decode cL_law 894 = .ok (.iaload, 1) := by decide +kernel
theorem dL_law_895 : decode cL_law 895 = .ok (.invokevirtual 117, 3) := by decide +kernel
theorem dL_law_898 : decode cL_law 898 = .ok (.if_icmp .eq 153, 3) := by decide +kernel
theorem dL_law_901 : decode cL_law 901 = .ok (.iconst 0, 1) := by decide +kernel
theorem dL_law_902 : decode cL_law 902 = .ok (.ireturn, 1) := by decide +kernel
theorem dL_law_903 : decode cL_law 903 = .ok (.aload_n 1, 1) := by decide +kernel
theorem dL_law_904 : decode cL_law 904 = .ok (.invokevirtual 118, 3) := by decide +kernel
theorem dL_law_907 : decode cL_law 907 = .ok (.aload_n 2, 1) := by decide +kernel
theorem dL_law_908 : decode cL_law 908 = .ok (.invokevirtual 121, 3) := by decide +kernel
theorem dL_law_911 : decode cL_law 911 = .ok (.if_icmp .eq 140, 3) := by decide +kernel
theorem dL_law_914 : decode cL_law 914 = .ok (.iconst 0, 1) := by decide +kernel
theorem dL_law_915 : decode cL_law 915 = .ok (.ireturn, 1) := by decide +kernel
theorem dL_law_916 : decode cL_law 916 = .ok (.aload_n 1, 1) := by decide +kernel
theorem dL_law_917 : decode cL_law 917 = .ok (.aload_n 0, 1) := by decide +kernel
theorem dL_law_918 : decode cL_law 918 = .ok (.iload_n 3, 1) := by decide +kernel
theorem dL_law_919 : decode cL_law 919 = .ok (.iconst 1, 1) := by decide +kernel
theorem dL_law_920 : decode cL_law 920 = .ok (.iadd, 1) := by decide +kernel
theorem dL_law_921 : decode cL_law 921 = .ok (.iaload, 1) := by decide +kernel
theorem dL_law_922 : decode cL_law 922 = .ok (.aload_n 0, 1) := by decide +kernel
theorem dL_law_923 : decode cL_law 923 = .ok (.iload_n 3, 1) := by decide +kernel
theorem dL_law_924 : decode cL_law 924 = .ok (.iconst 2, 1) := by decide +kernel
theorem dL_law_925 : decode cL_law 925 = .ok (.iadd, 1) := by decide +kernel
theorem dL_law_926 : decode cL_law 926 = .ok (.iaload, 1) := by decide +kernel
theorem dL_law_927 : decode cL_law 927 = .ok (.invokevirtual 122, 3) := by decide +kernel
theorem dL_law_930 : decode cL_law 930 = .ok (.aload_n 2, 1) := by decide +kernel
theorem dL_law_931 : decode cL_law 931 = .ok (.aload_n 0, 1) := by decide +kernel
theorem dL_law_932 : decode cL_law 932 = .ok (.iload_n 3, 1) := by decide +kernel
theorem dL_law_933 : decode cL_law 933 = .ok (.iconst 1, 1) := by decide +kernel
theorem dL_law_934 : decode cL_law 934 = .ok (.iadd, 1) := by decide +kernel
theorem dL_law_935 : decode cL_law 935 = .ok (.iaload, 1) := by decide +kernel
theorem dL_law_936 : decode cL_law 936 = .ok (.aload_n 0, 1) := by decide +kernel
theorem dL_law_937 : decode cL_law 937 = .ok (.iload_n 3, 1) := by decide +kernel
theorem dL_law_938 : decode cL_law 938 = .ok (.iconst 2, 1) := by decide +kernel
theorem dL_law_939 : decode cL_law 939 = .ok (.iadd, 1) := by decide +kernel
theorem dL_law_940 : decode cL_law 940 = .ok (.iaload, 1) := by decide +kernel
theorem dL_law_941 : decode cL_law 941 = .ok (.invokevirtual 125, 3) := by decide +kernel
theorem dL_law_944 : decode cL_law 944 = .ok (.if_icmp .eq 107, 3) := by decide +kernel
theorem dL_law_947 : decode cL_law 947 = .ok (.iconst 0, 1) := by decide +kernel
theorem dL_law_948 : decode cL_law 948 = .ok (.ireturn, 1) := by decide +kernel
theorem dL_law_949 : decode cL_law 949 = .ok (.aload_n 1, 1) := by decide +kernel
theorem dL_law_950 : decode cL_law 950 = .ok (.aload_n 0, 1) := by decide +kernel
theorem dL_law_951 : decode cL_law 951 = .ok (.iload_n 3, 1) := by decide +kernel
theorem dL_law_952 : decode cL_law 952 = .ok (.iconst 1, 1) := by decide +kernel
theorem dL_law_953 : decode cL_law 953 = .ok (.iadd, 1) := by decide +kernel
theorem dL_law_954 : decode cL_law 954 = .ok (.iaload, 1) := by decide +kernel
theorem dL_law_955 : decode cL_law 955 = .ok (.aload_n 0, 1) := by decide +kernel
theorem dL_law_956 : decode cL_law 956 = .ok (.iload_n 3, 1) := by decide +kernel
theorem dL_law_957 : decode cL_law 957 = .ok (.iconst 2, 1) := by decide +kernel
theorem dL_law_958 : decode cL_law 958 = .ok (.iadd, 1) := by decide +kernel
theorem dL_law_959 : decode cL_law 959 = .ok (.iaload, 1) := by decide +kernel
theorem dL_law_960 : decode cL_law 960 = .ok (.aload_n 0, 1) := by decide +kernel
theorem dL_law_961 : decode cL_law 961 = .ok (.iload_n 3, 1) := by decide +kernel
theorem dL_law_962 : decode cL_law 962 = .ok (.iconst 3, 1) := by decide +kernel
theorem dL_law_963 : decode cL_law 963 = .ok (.iadd, 1) := by decide +kernel
theorem dL_law_964 : decode cL_law 964 = .ok (.iaload, 1) := by decide +kernel
theorem dL_law_965 : decode cL_law 965 = .ok (.invokevirtual 126, 3) := by decide +kernel
theorem dL_law_968 : decode cL_law 968 = .ok (.aload_n 2, 1) := by decide +kernel
theorem dL_law_969 : decode cL_law 969 = .ok (.aload_n 0, 1) := by decide +kernel
theorem dL_law_970 : decode cL_law 970 = .ok (.iload_n 3, 1) := by decide +kernel
theorem dL_law_971 : decode cL_law 971 = .ok (.iconst 1, 1) := by decide +kernel
theorem dL_law_972 : decode cL_law 972 = .ok (.iadd, 1) := by decide +kernel
theorem dL_law_973 : decode cL_law 973 = .ok (.iaload, 1) := by decide +kernel
theorem dL_law_974 : decode cL_law 974 = .ok (.aload_n 0, 1) := by decide +kernel
theorem dL_law_975 : decode cL_law 975 = .ok (.iload_n 3, 1) := by decide +kernel
theorem dL_law_976 : decode cL_law 976 = .ok (.iconst 2, 1) := by decide +kernel
theorem dL_law_977 : decode cL_law 977 = .ok (.iadd, 1) := by decide +kernel
theorem dL_law_978 : decode cL_law 978 = .ok (.iaload, 1) := by decide +kernel
theorem dL_law_979 : decode cL_law 979 = .ok (.aload_n 0, 1) := by decide +kernel
theorem dL_law_980 : decode cL_law 980 = .ok (.iload_n 3, 1) := by decide +kernel
theorem dL_law_981 : decode cL_law 981 = .ok (.iconst 3, 1) := by decide +kernel
theorem dL_law_982 : decode cL_law 982 = .ok (.iadd, 1) := by decide +kernel
theorem dL_law_983 : decode cL_law 983 = .ok (.iaload, 1) := by decide +kernel
theorem dL_law_984 : decode cL_law 984 = .ok (.invokevirtual 129, 3) := by decide +kernel
theorem dL_law_987 : decode cL_law 987 = .ok (.if_icmp .eq 64, 3) := by decide +kernel
theorem dL_law_990 : decode cL_law 990 = .ok (.iconst 0, 1) := by decide +kernel
theorem dL_law_991 : decode cL_law 991 = .ok (.ireturn, 1) := by decide +kernel
theorem dL_law_992 : decode cL_law 992 = .ok (.aload_n 1, 1) := by decide +kernel
theorem dL_law_993 : decode cL_law 993 = .ok (.aload_n 0, 1) := by decide +kernel
theorem dL_law_994 : decode cL_law 994 = .ok (.iload_n 3, 1) := by decide +kernel
theorem dL_law_995 : decode cL_law 995 = .ok (.iconst 1, 1) := by decide +kernel
theorem dL_law_996 : decode cL_law 996 = .ok (.iadd, 1) := by decide +kernel
theorem dL_law_997 : decode cL_law 997 = .ok (.iaload, 1) := by decide +kernel
theorem dL_law_998 : decode cL_law 998 = .ok (.aload_n 0, 1) := by decide +kernel
theorem dL_law_999 : decode cL_law 999 = .ok (.iload_n 3, 1) := by decide +kernel
theorem dL_law_1000 : decode cL_law 1000 = .ok (.iconst 2, 1) := by decide +kernel
theorem dL_law_1001 : decode cL_law 1001 = .ok (.iadd, 1) := by decide +kernel
theorem dL_law_1002 : decode cL_law 1002 = .ok (.iaload, 1) := by decide +kernel
theorem dL_law_1003 : decode cL_law 1003 = .ok (.invokevirtual 130, 3) := by decide +kernel
theorem dL_law_1006 : decode cL_law 1006 = .ok (.aload_n 2, 1) := by decide +kernel
theorem dL_law_1007 : decode cL_law 1007 = .ok (.aload_n 0, 1) := by decide +kernel
theorem dL_law_1008 : decode cL_law 1008 = .ok (.iload_n 3, 1) := by decide +kernel
theorem dL_law_1009 : decode cL_law 1009 = .ok (.iconst 1, 1) := by decide +kernel
theorem dL_law_1010 : decode cL_law 1010 = .ok (.iadd, 1) := by decide +kernel
theorem dL_law_1011 : decode cL_law 1011 = .ok (.iaload, 1) := by decide +kernel
theorem dL_law_1012 : decode cL_law 1012 = .ok (.aload_n 0, 1) := by decide +kernel
theorem dL_law_1013 : decode cL_law 1013 = .ok (.iload_n 3, 1) := by decide +kernel
theorem dL_law_1014 : decode cL_law 1014 = .ok (.iconst 2, 1) := by decide +kernel
theorem dL_law_1015 : decode cL_law 1015 = .ok (.iadd, 1) := by decide +kernel
theorem dL_law_1016 : decode cL_law 1016 = .ok (.iaload, 1) := by decide +kernel
theorem dL_law_1017 : decode cL_law 1017 = .ok (.invokevirtual 133, 3) := by decide +kernel
theorem dL_law_1020 : decode cL_law 1020 = .ok (.if_icmp .eq 31, 3) := by decide +kernel
theorem dL_law_1023 : decode cL_law 1023 = .ok (.iconst 0, 1) := by decide +kernel
theorem dL_law_1024 : decode cL_law 1024 = .ok (.ireturn, 1) := by decide +kernel
theorem dL_law_1025 : decode cL_law 1025 = .ok (.aload_n 1, 1) := by decide +kernel
theorem dL_law_1026 : decode cL_law 1026 = .ok (.invokevirtual 134, 3) := by decide +kernel
theorem dL_law_1029 : decode cL_law 1029 = .ok (.aload_n 2, 1) := by decide +kernel
theorem dL_law_1030 : decode cL_law 1030 = .ok (.invokevirtual 137, 3) := by decide +kernel
theorem dL_law_1033 : decode cL_law 1033 = .ok (.if_icmp .eq 18, 3) := by decide +kernel
theorem dL_law_1036 : decode cL_law 1036 = .ok (.iconst 0, 1) := by decide +kernel
theorem dL_law_1037 : decode cL_law 1037 = .ok (.ireturn, 1) := by decide +kernel
theorem dL_law_1038 : decode cL_law 1038 = .ok (.aload_n 1, 1) := by decide +kernel
theorem dL_law_1039 : decode cL_law 1039 = .ok (.invokevirtual 138, 3) := by decide +kernel
theorem dL_law_1042 : decode cL_law 1042 = .ok (.aload_n 2, 1) := by decide +kernel
theorem dL_law_1043 : decode cL_law 1043 = .ok (.invokevirtual 141, 3) := by decide +kernel
theorem dL_law_1046 : decode cL_law 1046 = .ok (.if_icmp .eq 5, 3) := by decide +kernel
theorem dL_law_1049 : decode cL_law 1049 = .ok (.iconst 0, 1) := by decide +kernel
theorem dL_law_1050 : decode cL_law 1050 = .ok (.ireturn, 1) := by decide +kernel
theorem dL_law_1051 : decode cL_law 1051 = .ok (.iinc 3 4, 3) := by decide +kernel
theorem dL_law_1054 : decode cL_law 1054 = .ok (.goto (-1036), 3) := by decide +kernel
theorem dL_law_1057 : decode cL_law 1057 = .ok (.iconst 1, 1) := by decide +kernel
theorem dL_law_1058 : decode cL_law 1058 = .ok (.ireturn, 1) := by decide +kernel
end
section
abbrev layT : List Ly := [
  (13, 9, [3, 24, 0, 45, 46, 50, 53, 57, 88]),
  (5, 14, [0, 0, 4, 5, 6, 7, 8, 9, 10, 11, 12, 13, 14, 15]),
  (2, 4, [16, 18, 20, 22]),
  (0, 4, []),
  (0, 4, []),
  (0, 4, []),
  (0, 4, []),
  (0, 4, []),
  (1, 3, []),
  (0, 3, []),
  (0, 3, []),
  (0, 3, []),
  (0, 3, []),
  (0, 4, []),
  (7, 2, [0, 17]),
  (0, 48, []),
  (7, 2, [0, 19]),
  (0, 48, []),
  (7, 2, [0, 21]),
  (0, 48, []),
  (7, 2, [0, 23]),
  (0, 48, []),
  (5, 14, [0, 0, 25, 26, 27, 28, 29, 30, 31, 32, 33, 34, 35, 36]),
  (2, 4, [37, 39, 41, 43]),
  (0, 4, []),
  (0, 4, []),
  (0, 4, []),
  (0, 4, []),
  (0, 4, []),
  (1, 3, []),
  (0, 3, []),
  (0, 3, []),
  (0, 3, []),
  (0, 3, []),
  (0, 4, []),
  (7, 2, [0, 38]),
  (0, 48, []),
  (7, 2, [0, 40]),
  (0, 48, []),
  (7, 2, [0, 42]),
  (0, 48, []),
  (7, 2, [0, 44]),
  (0, 48, []),
  (8, 4, [46, 48, 0, 0]),
  (11, 2, [47, 0]),
  (0, 120, []),
  (7, 2, [0, 49]),
  (0, 48, []),
  (12, 3, [0, 51, 52]),
  (0, 3, []),
  (0, 3, []),
  (4, 4, [0, 54, 55, 56]),
  (0, 4, []),
  (0, 4, []),
  (0, 4, []),
  (9, 15, [0, 58, 79, 83, 84, 85, 86, 87, 0, 0, 0, 0, 0, 0, 0]),
  (5, 14, [0, 0, 59, 60, 61, 62, 63, 64, 65, 66, 67, 68, 69, 70]),
  (2, 4, [71, 73, 75, 77]),
  (0, 4, []),
  (0, 4, []),
  (0, 4, []),
  (0, 4, []),
  (0, 4, []),
  (1, 3, []),
  (0, 3, []),
  (0, 3, []),
  (0, 3, []),
  (0, 3, []),
  (0, 4, []),
  (7, 2, [0, 72]),
  (0, 48, []),
  (7, 2, [0, 74]),
  (0, 48, []),
  (7, 2, [0, 76]),
  (0, 48, []),
  (7, 2, [0, 78]),
  (0, 48, []),
  (10, 4, [0, 80, 81, 82]),
  (0, 3600, []),
  (0, 6, []),
  (0, 2048, []),
  (0, 600, []),
  (0, 600, []),
  (0, 600, []),
  (0, 600, []),
  (0, 3, []),
  (6, 2, [89, 90]),
  (0, 4, []),
  (3, 4, [91, 92, 93, 94]),
  (0, 40, []),
  (0, 40, []),
  (0, 40, []),
  (0, 40, []),
  (14, 29, [96, 97, 98, 99, 100, 0, 101, 102, 103, 0, 0, 0, 0, 104, 105, 0, 0, 0, 106, 107, 108, 109, 110, 0, 0, 111, 0, 112, 113]),
  (0, 253, []),
  (0, 253, []),
  (0, 52, []),
  (0, 4, []),
  (0, 4, []),
  (0, 120, []),
  (0, 48, []),
  (0, 54, []),
  (0, 3, []),
  (0, 3, []),
  (0, 31200, []),
  (0, 600, []),
  (0, 600, []),
  (0, 600, []),
  (0, 2048, []),
  (0, 12, []),
  (0, 4, []),
  (0, 160, [])]
theorem L0 : layT[0]? = some (13, 9, [3, 24, 0, 45, 46, 50, 53, 57, 88]) := rfl
theorem L1 : layT[1]? = some (5, 14, [0, 0, 4, 5, 6, 7, 8, 9, 10, 11, 12, 13, 14, 15]) := rfl
theorem L2 : layT[2]? = some (2, 4, [16, 18, 20, 22]) := rfl
theorem L3 : layT[3]? = some (0, 4, []) := rfl
theorem L4 : layT[4]? = some (0, 4, []) := rfl
theorem L5 : layT[5]? = some (0, 4, []) := rfl
theorem L6 : layT[6]? = some (0, 4, []) := rfl
theorem L7 : layT[7]? = some (0, 4, []) := rfl
theorem L8 : layT[8]? = some (1, 3, []) := rfl
theorem L9 : layT[9]? = some (0, 3, []) := rfl
theorem L10 : layT[10]? = some (0, 3, []) := rfl
theorem L11 : layT[11]? = some (0, 3, []) := rfl
theorem L12 : layT[12]? = some (0, 3, []) := rfl
theorem L13 : layT[13]? = some (0, 4, []) := rfl
theorem L14 : layT[14]? = some (7, 2, [0, 17]) := rfl
theorem L15 : layT[15]? = some (0, 48, []) := rfl
theorem L16 : layT[16]? = some (7, 2, [0, 19]) := rfl
theorem L17 : layT[17]? = some (0, 48, []) := rfl
theorem L18 : layT[18]? = some (7, 2, [0, 21]) := rfl
theorem L19 : layT[19]? = some (0, 48, []) := rfl
theorem L20 : layT[20]? = some (7, 2, [0, 23]) := rfl
theorem L21 : layT[21]? = some (0, 48, []) := rfl
theorem L22 : layT[22]? = some (5, 14, [0, 0, 25, 26, 27, 28, 29, 30, 31, 32, 33, 34, 35, 36]) := rfl
theorem L23 : layT[23]? = some (2, 4, [37, 39, 41, 43]) := rfl
theorem L24 : layT[24]? = some (0, 4, []) := rfl
theorem L25 : layT[25]? = some (0, 4, []) := rfl
theorem L26 : layT[26]? = some (0, 4, []) := rfl
theorem L27 : layT[27]? = some (0, 4, []) := rfl
theorem L28 : layT[28]? = some (0, 4, []) := rfl
theorem L29 : layT[29]? = some (1, 3, []) := rfl
theorem L30 : layT[30]? = some (0, 3, []) := rfl
theorem L31 : layT[31]? = some (0, 3, []) := rfl
theorem L32 : layT[32]? = some (0, 3, []) := rfl
theorem L33 : layT[33]? = some (0, 3, []) := rfl
theorem L34 : layT[34]? = some (0, 4, []) := rfl
theorem L35 : layT[35]? = some (7, 2, [0, 38]) := rfl
theorem L36 : layT[36]? = some (0, 48, []) := rfl
theorem L37 : layT[37]? = some (7, 2, [0, 40]) := rfl
theorem L38 : layT[38]? = some (0, 48, []) := rfl
theorem L39 : layT[39]? = some (7, 2, [0, 42]) := rfl
theorem L40 : layT[40]? = some (0, 48, []) := rfl
theorem L41 : layT[41]? = some (7, 2, [0, 44]) := rfl
theorem L42 : layT[42]? = some (0, 48, []) := rfl
theorem L43 : layT[43]? = some (8, 4, [46, 48, 0, 0]) := rfl
theorem L44 : layT[44]? = some (11, 2, [47, 0]) := rfl
theorem L45 : layT[45]? = some (0, 120, []) := rfl
theorem L46 : layT[46]? = some (7, 2, [0, 49]) := rfl
theorem L47 : layT[47]? = some (0, 48, []) := rfl
theorem L48 : layT[48]? = some (12, 3, [0, 51, 52]) := rfl
theorem L49 : layT[49]? = some (0, 3, []) := rfl
theorem L50 : layT[50]? = some (0, 3, []) := rfl
theorem L51 : layT[51]? = some (4, 4, [0, 54, 55, 56]) := rfl
theorem L52 : layT[52]? = some (0, 4, []) := rfl
theorem L53 : layT[53]? = some (0, 4, []) := rfl
theorem L54 : layT[54]? = some (0, 4, []) := rfl
theorem L55 : layT[55]? = some (9, 15, [0, 58, 79, 83, 84, 85, 86, 87, 0, 0, 0, 0, 0, 0, 0]) := rfl
theorem L56 : layT[56]? = some (5, 14, [0, 0, 59, 60, 61, 62, 63, 64, 65, 66, 67, 68, 69, 70]) := rfl
theorem L57 : layT[57]? = some (2, 4, [71, 73, 75, 77]) := rfl
theorem L58 : layT[58]? = some (0, 4, []) := rfl
theorem L59 : layT[59]? = some (0, 4, []) := rfl
theorem L60 : layT[60]? = some (0, 4, []) := rfl
theorem L61 : layT[61]? = some (0, 4, []) := rfl
theorem L62 : layT[62]? = some (0, 4, []) := rfl
theorem L63 : layT[63]? = some (1, 3, []) := rfl
theorem L64 : layT[64]? = some (0, 3, []) := rfl
theorem L65 : layT[65]? = some (0, 3, []) := rfl
theorem L66 : layT[66]? = some (0, 3, []) := rfl
theorem L67 : layT[67]? = some (0, 3, []) := rfl
theorem L68 : layT[68]? = some (0, 4, []) := rfl
theorem L69 : layT[69]? = some (7, 2, [0, 72]) := rfl
theorem L70 : layT[70]? = some (0, 48, []) := rfl
theorem L71 : layT[71]? = some (7, 2, [0, 74]) := rfl
theorem L72 : layT[72]? = some (0, 48, []) := rfl
theorem L73 : layT[73]? = some (7, 2, [0, 76]) := rfl
theorem L74 : layT[74]? = some (0, 48, []) := rfl
theorem L75 : layT[75]? = some (7, 2, [0, 78]) := rfl
theorem L76 : layT[76]? = some (0, 48, []) := rfl
theorem L77 : layT[77]? = some (10, 4, [0, 80, 81, 82]) := rfl
theorem L78 : layT[78]? = some (0, 3600, []) := rfl
theorem L79 : layT[79]? = some (0, 6, []) := rfl
theorem L80 : layT[80]? = some (0, 2048, []) := rfl
theorem L81 : layT[81]? = some (0, 600, []) := rfl
theorem L82 : layT[82]? = some (0, 600, []) := rfl
theorem L83 : layT[83]? = some (0, 600, []) := rfl
theorem L84 : layT[84]? = some (0, 600, []) := rfl
theorem L85 : layT[85]? = some (0, 3, []) := rfl
theorem L86 : layT[86]? = some (6, 2, [89, 90]) := rfl
theorem L87 : layT[87]? = some (0, 4, []) := rfl
theorem L88 : layT[88]? = some (3, 4, [91, 92, 93, 94]) := rfl
theorem L89 : layT[89]? = some (0, 40, []) := rfl
theorem L90 : layT[90]? = some (0, 40, []) := rfl
theorem L91 : layT[91]? = some (0, 40, []) := rfl
theorem L92 : layT[92]? = some (0, 40, []) := rfl
theorem L93 : layT[93]? = some (14, 29, [96, 97, 98, 99, 100, 0, 101, 102, 103, 0, 0, 0, 0, 104, 105, 0, 0, 0, 106, 107, 108, 109, 110, 0, 0, 111, 0, 112, 113]) := rfl
theorem L94 : layT[94]? = some (0, 253, []) := rfl
theorem L95 : layT[95]? = some (0, 253, []) := rfl
theorem L96 : layT[96]? = some (0, 52, []) := rfl
theorem L97 : layT[97]? = some (0, 4, []) := rfl
theorem L98 : layT[98]? = some (0, 4, []) := rfl
theorem L99 : layT[99]? = some (0, 120, []) := rfl
theorem L100 : layT[100]? = some (0, 48, []) := rfl
theorem L101 : layT[101]? = some (0, 54, []) := rfl
theorem L102 : layT[102]? = some (0, 3, []) := rfl
theorem L103 : layT[103]? = some (0, 3, []) := rfl
theorem L104 : layT[104]? = some (0, 31200, []) := rfl
theorem L105 : layT[105]? = some (0, 600, []) := rfl
theorem L106 : layT[106]? = some (0, 600, []) := rfl
theorem L107 : layT[107]? = some (0, 600, []) := rfl
theorem L108 : layT[108]? = some (0, 2048, []) := rfl
theorem L109 : layT[109]? = some (0, 12, []) := rfl
theorem L110 : layT[110]? = some (0, 4, []) := rfl
theorem L111 : layT[111]? = some (0, 160, []) := rfl
/-- the answer v, the memory h -/
abbrev rt (v : Option Value) (h : Mem) : Option Value → Mem → Prop := fun r g => r = v ∧ g = h
abbrev C0 (M : MT) (as : List Value) (f : Mem) (post : Option Value → Mem → Prop) : Prop := Ct M 0 0 layT layT as f post
def isDesk (d : Nat) : Prop := d = 1 ∨ d = 22 ∨ d = 56
theorem LD0 {d : Nat} (h : isDesk d) : layT[d]? = some (5, 14, [0, 0, d + 1 + 2, d + 2 + 2, d + 3 + 2, d + 4 + 2, d + 5 + 2, d + 6 + 2, d + 7 + 2, d + 8 + 2, d + 9 + 2, d + 10 + 2, d + 11 + 2, d + 12 + 2]) := by rcases h with rfl | rfl | rfl <;> rfl
theorem LD1 {d : Nat} (h : isDesk d) : layT[d + 1]? = some (2, 4, [d + 13 + 2, d + 15 + 2, d + 17 + 2, d + 19 + 2]) := by rcases h with rfl | rfl | rfl <;> rfl
theorem LD2 {d : Nat} (h : isDesk d) : layT[d + 2]? = some (0, 4, []) := by rcases h with rfl | rfl | rfl <;> rfl
theorem LD3 {d : Nat} (h : isDesk d) : layT[d + 3]? = some (0, 4, []) := by rcases h with rfl | rfl | rfl <;> rfl
theorem LD4 {d : Nat} (h : isDesk d) : layT[d + 4]? = some (0, 4, []) := by rcases h with rfl | rfl | rfl <;> rfl
theorem LD5 {d : Nat} (h : isDesk d) : layT[d + 5]? = some (0, 4, []) := by rcases h with rfl | rfl | rfl <;> rfl
theorem LD6 {d : Nat} (h : isDesk d) : layT[d + 6]? = some (0, 4, []) := by rcases h with rfl | rfl | rfl <;> rfl
theorem LD7 {d : Nat} (h : isDesk d) : layT[d + 7]? = some (1, 3, []) := by rcases h with rfl | rfl | rfl <;> rfl
theorem LD8 {d : Nat} (h : isDesk d) : layT[d + 8]? = some (0, 3, []) := by rcases h with rfl | rfl | rfl <;> rfl
theorem LD9 {d : Nat} (h : isDesk d) : layT[d + 9]? = some (0, 3, []) := by rcases h with rfl | rfl | rfl <;> rfl
theorem LD10 {d : Nat} (h : isDesk d) : layT[d + 10]? = some (0, 3, []) := by rcases h with rfl | rfl | rfl <;> rfl
theorem LD11 {d : Nat} (h : isDesk d) : layT[d + 11]? = some (0, 3, []) := by rcases h with rfl | rfl | rfl <;> rfl
theorem LD12 {d : Nat} (h : isDesk d) : layT[d + 12]? = some (0, 4, []) := by rcases h with rfl | rfl | rfl <;> rfl
/-- the cell of a task's program -/
def isProg (p : Nat) : Prop := layT[p]? = some (7, 2, [0, p + 1 + 2]) ∧ layT[p + 1]? = some (0, 48, [])
theorem isDesk.prog {d t : Nat} (h : isDesk d) (ht : t < 4) : isProg (d + 13 + 2 * t) ∧ [d + 13 + 2, d + 15 + 2, d + 17 + 2, d + 19 + 2][t]? = some (d + 13 + 2 * t + 2) := by
  rcases h with rfl | rfl | rfl <;> (match t, ht with | 0, _ => exact ⟨⟨rfl, rfl⟩, rfl⟩ | 1, _ => exact ⟨⟨rfl, rfl⟩, rfl⟩ | 2, _ => exact ⟨⟨rfl, rfl⟩, rfl⟩ | 3, _ => exact ⟨⟨rfl, rfl⟩, rfl⟩)
theorem isProg46 : isProg 46 := ⟨rfl, rfl⟩
end
