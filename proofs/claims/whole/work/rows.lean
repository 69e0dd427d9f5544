section
-- ===== PART A: goes FIRST, ahead of the names: the tables' words, and 'selects' of the private methods out of them =====
/-- a private method of a class that the tables say can be made, by its rows of tables_1 -/
def lw_okq (q : MethodName × Nat) : Prop := (q.1.cls ≠ "java/lang/invoke/MethodHandle" ∧ q.1.cls ≠ "java/lang/invoke/VarHandle") ∧ Cond.instantiable q.1.cls q.2 ∈ tables_1 ∧ Cond.privateMethod q.1 ∈ tables_1 ∧ Cond.instanceMethod q.1 ∈ tables_1
theorem lw_p0 : lw_okq (⟨"GateTurns", "isTask", "(I)Z"⟩, 9) := ⟨⟨by decide +kernel, by decide +kernel⟩, List.mem_of_getElem? (i := 21) (by decide +kernel), List.mem_of_getElem? (i := 399) (by decide +kernel), List.mem_of_getElem? (i := 400) (by decide +kernel)⟩
theorem lw_p1 : lw_okq (⟨"GateTurns$Reader", "readStatement", "()V"⟩, 4) := ⟨⟨by decide +kernel, by decide +kernel⟩, List.mem_of_getElem? (i := 127) (by decide +kernel), List.mem_of_getElem? (i := 407) (by decide +kernel), List.mem_of_getElem? (i := 408) (by decide +kernel)⟩
theorem lw_p2 : lw_okq (⟨"GateTurns$Reader", "readWord", "()I"⟩, 4) := ⟨⟨by decide +kernel, by decide +kernel⟩, List.mem_of_getElem? (i := 127) (by decide +kernel), List.mem_of_getElem? (i := 411) (by decide +kernel), List.mem_of_getElem? (i := 412) (by decide +kernel)⟩
theorem lw_p3 : lw_okq (⟨"GateTurns$Reader", "isWord", "(Ljava/lang/String;I)Z"⟩, 4) := ⟨⟨by decide +kernel, by decide +kernel⟩, List.mem_of_getElem? (i := 127) (by decide +kernel), List.mem_of_getElem? (i := 431) (by decide +kernel), List.mem_of_getElem? (i := 432) (by decide +kernel)⟩
theorem lw_p4 : lw_okq (⟨"GateTurns$Reader", "readTarget", "()I"⟩, 4) := ⟨⟨by decide +kernel, by decide +kernel⟩, List.mem_of_getElem? (i := 127) (by decide +kernel), List.mem_of_getElem? (i := 483) (by decide +kernel), List.mem_of_getElem? (i := 484) (by decide +kernel)⟩
theorem lw_p5 : lw_okq (⟨"GateTurns$Reader", "readBlank", "()V"⟩, 4) := ⟨⟨by decide +kernel, by decide +kernel⟩, List.mem_of_getElem? (i := 127) (by decide +kernel), List.mem_of_getElem? (i := 487) (by decide +kernel), List.mem_of_getElem? (i := 488) (by decide +kernel)⟩
theorem lw_p6 : lw_okq (⟨"GateTurns$Reader", "takeFigures", "(I)I"⟩, 4) := ⟨⟨by decide +kernel, by decide +kernel⟩, List.mem_of_getElem? (i := 127) (by decide +kernel), List.mem_of_getElem? (i := 491) (by decide +kernel), List.mem_of_getElem? (i := 492) (by decide +kernel)⟩
theorem lw_p7 : lw_okq (⟨"GateTurns$Reader", "allowed", "(III)I"⟩, 4) := ⟨⟨by decide +kernel, by decide +kernel⟩, List.mem_of_getElem? (i := 127) (by decide +kernel), List.mem_of_getElem? (i := 495) (by decide +kernel), List.mem_of_getElem? (i := 496) (by decide +kernel)⟩
theorem lw_p8 : lw_okq (⟨"GateTurns$Reader", "readFigureBelow", "(I)I"⟩, 4) := ⟨⟨by decide +kernel, by decide +kernel⟩, List.mem_of_getElem? (i := 127) (by decide +kernel), List.mem_of_getElem? (i := 499) (by decide +kernel), List.mem_of_getElem? (i := 500) (by decide +kernel)⟩
theorem lw_p9 : lw_okq (⟨"GateTurns$Reader", "readNumber", "()I"⟩, 4) := ⟨⟨by decide +kernel, by decide +kernel⟩, List.mem_of_getElem? (i := 127) (by decide +kernel), List.mem_of_getElem? (i := 503) (by decide +kernel), List.mem_of_getElem? (i := 504) (by decide +kernel)⟩
theorem lw_p10 : lw_okq (⟨"GateTurns$Trouble", "append", "(II)V"⟩, 3) := ⟨⟨by decide +kernel, by decide +kernel⟩, List.mem_of_getElem? (i := 165) (by decide +kernel), List.mem_of_getElem? (i := 515) (by decide +kernel), List.mem_of_getElem? (i := 516) (by decide +kernel)⟩
theorem lw_p11 : lw_okq (⟨"GateTurns", "takeTruly", "(I)V"⟩, 9) := ⟨⟨by decide +kernel, by decide +kernel⟩, List.mem_of_getElem? (i := 21) (by decide +kernel), List.mem_of_getElem? (i := 539) (by decide +kernel), List.mem_of_getElem? (i := 540) (by decide +kernel)⟩
theorem lw_p12 : lw_okq (⟨"GateTurns$Desk", "end", "(II)V"⟩, 14) := ⟨⟨by decide +kernel, by decide +kernel⟩, List.mem_of_getElem? (i := 29) (by decide +kernel), List.mem_of_getElem? (i := 547) (by decide +kernel), List.mem_of_getElem? (i := 548) (by decide +kernel)⟩
theorem lw_p13 : lw_okq (⟨"GateTurns$Desk", "free", "(I)V"⟩, 14) := ⟨⟨by decide +kernel, by decide +kernel⟩, List.mem_of_getElem? (i := 29) (by decide +kernel), List.mem_of_getElem? (i := 551) (by decide +kernel), List.mem_of_getElem? (i := 552) (by decide +kernel)⟩
theorem lw_p14 : lw_okq (⟨"GateTurns$Desk", "doAtMonitor", "(III)I"⟩, 14) := ⟨⟨by decide +kernel, by decide +kernel⟩, List.mem_of_getElem? (i := 29) (by decide +kernel), List.mem_of_getElem? (i := 562) (by decide +kernel), List.mem_of_getElem? (i := 563) (by decide +kernel)⟩
theorem lw_p15 : lw_okq (⟨"GateTurns$Desk", "enter", "(II)I"⟩, 14) := ⟨⟨by decide +kernel, by decide +kernel⟩, List.mem_of_getElem? (i := 29) (by decide +kernel), List.mem_of_getElem? (i := 566) (by decide +kernel), List.mem_of_getElem? (i := 567) (by decide +kernel)⟩
def lw_privs_1 : List (MethodName × Nat) := [(⟨"GateTurns", "isTask", "(I)Z"⟩, 9), (⟨"GateTurns$Reader", "readStatement", "()V"⟩, 4), (⟨"GateTurns$Reader", "readWord", "()I"⟩, 4), (⟨"GateTurns$Reader", "isWord", "(Ljava/lang/String;I)Z"⟩, 4), (⟨"GateTurns$Reader", "readTarget", "()I"⟩, 4), (⟨"GateTurns$Reader", "readBlank", "()V"⟩, 4), (⟨"GateTurns$Reader", "takeFigures", "(I)I"⟩, 4), (⟨"GateTurns$Reader", "allowed", "(III)I"⟩, 4), (⟨"GateTurns$Reader", "readFigureBelow", "(I)I"⟩, 4), (⟨"GateTurns$Reader", "readNumber", "()I"⟩, 4), (⟨"GateTurns$Trouble", "append", "(II)V"⟩, 3), (⟨"GateTurns", "takeTruly", "(I)V"⟩, 9), (⟨"GateTurns$Desk", "end", "(II)V"⟩, 14), (⟨"GateTurns$Desk", "free", "(I)V"⟩, 14), (⟨"GateTurns$Desk", "doAtMonitor", "(III)I"⟩, 14), (⟨"GateTurns$Desk", "enter", "(II)I"⟩, 14)]
theorem lw_r1 : ∀ q ∈ lw_privs_1, lw_okq q := List.forall_mem_cons.mpr ⟨lw_p0, List.forall_mem_cons.mpr ⟨lw_p1, List.forall_mem_cons.mpr ⟨lw_p2, List.forall_mem_cons.mpr ⟨lw_p3, List.forall_mem_cons.mpr ⟨lw_p4, List.forall_mem_cons.mpr ⟨lw_p5, List.forall_mem_cons.mpr ⟨lw_p6, List.forall_mem_cons.mpr ⟨lw_p7, List.forall_mem_cons.mpr ⟨lw_p8, List.forall_mem_cons.mpr ⟨lw_p9, List.forall_mem_cons.mpr ⟨lw_p10, List.forall_mem_cons.mpr ⟨lw_p11, List.forall_mem_cons.mpr ⟨lw_p12, List.forall_mem_cons.mpr ⟨lw_p13, List.forall_mem_cons.mpr ⟨lw_p14, List.forall_mem_cons.mpr ⟨lw_p15, fun _ h => absurd h List.not_mem_nil⟩⟩⟩⟩⟩⟩⟩⟩⟩⟩⟩⟩⟩⟩⟩⟩
theorem lw_p16 : lw_okq (⟨"GateTurns$Desk", "wake", "(II)V"⟩, 14) := ⟨⟨by decide +kernel, by decide +kernel⟩, List.mem_of_getElem? (i := 29) (by decide +kernel), List.mem_of_getElem? (i := 573) (by decide +kernel), List.mem_of_getElem? (i := 574) (by decide +kernel)⟩
theorem lw_p17 : lw_okq (⟨"GateTurns$Desk", "doWithCells", "(ILGateTurns$Program;I)I"⟩, 14) := ⟨⟨by decide +kernel, by decide +kernel⟩, List.mem_of_getElem? (i := 29) (by decide +kernel), List.mem_of_getElem? (i := 577) (by decide +kernel), List.mem_of_getElem? (i := 578) (by decide +kernel)⟩
theorem lw_p18 : lw_okq (⟨"GateTurns$Search", "begin", "(LGateTurns$Desk;)V"⟩, 15) := ⟨⟨by decide +kernel, by decide +kernel⟩, List.mem_of_getElem? (i := 201) (by decide +kernel), List.mem_of_getElem? (i := 672) (by decide +kernel), List.mem_of_getElem? (i := 673) (by decide +kernel)⟩
theorem lw_p19 : lw_okq (⟨"GateTurns$States", "pack", "(LGateTurns$Desk;)V"⟩, 4) := ⟨⟨by decide +kernel, by decide +kernel⟩, List.mem_of_getElem? (i := 209) (by decide +kernel), List.mem_of_getElem? (i := 692) (by decide +kernel), List.mem_of_getElem? (i := 693) (by decide +kernel)⟩
theorem lw_p20 : lw_okq (⟨"GateTurns$States", "firstSlot", "()I"⟩, 4) := ⟨⟨by decide +kernel, by decide +kernel⟩, List.mem_of_getElem? (i := 209) (by decide +kernel), List.mem_of_getElem? (i := 702) (by decide +kernel), List.mem_of_getElem? (i := 703) (by decide +kernel)⟩
theorem lw_p21 : lw_okq (⟨"GateTurns$States", "isDraft", "(I)Z"⟩, 4) := ⟨⟨by decide +kernel, by decide +kernel⟩, List.mem_of_getElem? (i := 209) (by decide +kernel), List.mem_of_getElem? (i := 707) (by decide +kernel), List.mem_of_getElem? (i := 708) (by decide +kernel)⟩
theorem lw_p22 : lw_okq (⟨"GateTurns$Search", "note", "(IIILGateTurns$Conditions;)V"⟩, 15) := ⟨⟨by decide +kernel, by decide +kernel⟩, List.mem_of_getElem? (i := 201) (by decide +kernel), List.mem_of_getElem? (i := 712) (by decide +kernel), List.mem_of_getElem? (i := 713) (by decide +kernel)⟩
theorem lw_p23 : lw_okq (⟨"GateTurns$Search", "noteOutcome", "()V"⟩, 15) := ⟨⟨by decide +kernel, by decide +kernel⟩, List.mem_of_getElem? (i := 201) (by decide +kernel), List.mem_of_getElem? (i := 725) (by decide +kernel), List.mem_of_getElem? (i := 726) (by decide +kernel)⟩
theorem lw_p24 : lw_okq (⟨"GateTurns$Search", "noteMonitors", "()V"⟩, 15) := ⟨⟨by decide +kernel, by decide +kernel⟩, List.mem_of_getElem? (i := 201) (by decide +kernel), List.mem_of_getElem? (i := 730) (by decide +kernel), List.mem_of_getElem? (i := 731) (by decide +kernel)⟩
theorem lw_p25 : lw_okq (⟨"GateTurnsModel", "isTask", "(I)Z"⟩, 29) := ⟨⟨by decide +kernel, by decide +kernel⟩, List.mem_of_getElem? (i := 834) (by decide +kernel), List.mem_of_getElem? (i := 974) (by decide +kernel), List.mem_of_getElem? (i := 975) (by decide +kernel)⟩
theorem lw_p26 : lw_okq (⟨"GateTurnsModel", "statement1", "(I)V"⟩, 29) := ⟨⟨by decide +kernel, by decide +kernel⟩, List.mem_of_getElem? (i := 834) (by decide +kernel), List.mem_of_getElem? (i := 978) (by decide +kernel), List.mem_of_getElem? (i := 979) (by decide +kernel)⟩
theorem lw_p27 : lw_okq (⟨"GateTurnsModel", "word", "()I"⟩, 29) := ⟨⟨by decide +kernel, by decide +kernel⟩, List.mem_of_getElem? (i := 834) (by decide +kernel), List.mem_of_getElem? (i := 982) (by decide +kernel), List.mem_of_getElem? (i := 983) (by decide +kernel)⟩
theorem lw_p28 : lw_okq (⟨"GateTurnsModel", "here", "()I"⟩, 29) := ⟨⟨by decide +kernel, by decide +kernel⟩, List.mem_of_getElem? (i := 834) (by decide +kernel), List.mem_of_getElem? (i := 986) (by decide +kernel), List.mem_of_getElem? (i := 987) (by decide +kernel)⟩
theorem lw_p29 : lw_okq (⟨"GateTurnsModel", "isWord", "(II)Z"⟩, 29) := ⟨⟨by decide +kernel, by decide +kernel⟩, List.mem_of_getElem? (i := 834) (by decide +kernel), List.mem_of_getElem? (i := 992) (by decide +kernel), List.mem_of_getElem? (i := 993) (by decide +kernel)⟩
theorem lw_p30 : lw_okq (⟨"GateTurnsModel", "must", "(ZI)V"⟩, 29) := ⟨⟨by decide +kernel, by decide +kernel⟩, List.mem_of_getElem? (i := 834) (by decide +kernel), List.mem_of_getElem? (i := 996) (by decide +kernel), List.mem_of_getElem? (i := 997) (by decide +kernel)⟩
theorem lw_p31 : lw_okq (⟨"GateTurnsModel", "number", "(IIZ)I"⟩, 29) := ⟨⟨by decide +kernel, by decide +kernel⟩, List.mem_of_getElem? (i := 834) (by decide +kernel), List.mem_of_getElem? (i := 1000) (by decide +kernel), List.mem_of_getElem? (i := 1001) (by decide +kernel)⟩
def lw_privs_2 : List (MethodName × Nat) := [(⟨"GateTurns$Desk", "wake", "(II)V"⟩, 14), (⟨"GateTurns$Desk", "doWithCells", "(ILGateTurns$Program;I)I"⟩, 14), (⟨"GateTurns$Search", "begin", "(LGateTurns$Desk;)V"⟩, 15), (⟨"GateTurns$States", "pack", "(LGateTurns$Desk;)V"⟩, 4), (⟨"GateTurns$States", "firstSlot", "()I"⟩, 4), (⟨"GateTurns$States", "isDraft", "(I)Z"⟩, 4), (⟨"GateTurns$Search", "note", "(IIILGateTurns$Conditions;)V"⟩, 15), (⟨"GateTurns$Search", "noteOutcome", "()V"⟩, 15), (⟨"GateTurns$Search", "noteMonitors", "()V"⟩, 15), (⟨"GateTurnsModel", "isTask", "(I)Z"⟩, 29), (⟨"GateTurnsModel", "statement1", "(I)V"⟩, 29), (⟨"GateTurnsModel", "word", "()I"⟩, 29), (⟨"GateTurnsModel", "here", "()I"⟩, 29), (⟨"GateTurnsModel", "isWord", "(II)Z"⟩, 29), (⟨"GateTurnsModel", "must", "(ZI)V"⟩, 29), (⟨"GateTurnsModel", "number", "(IIZ)I"⟩, 29)]
theorem lw_r2 : ∀ q ∈ lw_privs_2, lw_okq q := List.forall_mem_cons.mpr ⟨lw_p16, List.forall_mem_cons.mpr ⟨lw_p17, List.forall_mem_cons.mpr ⟨lw_p18, List.forall_mem_cons.mpr ⟨lw_p19, List.forall_mem_cons.mpr ⟨lw_p20, List.forall_mem_cons.mpr ⟨lw_p21, List.forall_mem_cons.mpr ⟨lw_p22, List.forall_mem_cons.mpr ⟨lw_p23, List.forall_mem_cons.mpr ⟨lw_p24, List.forall_mem_cons.mpr ⟨lw_p25, List.forall_mem_cons.mpr ⟨lw_p26, List.forall_mem_cons.mpr ⟨lw_p27, List.forall_mem_cons.mpr ⟨lw_p28, List.forall_mem_cons.mpr ⟨lw_p29, List.forall_mem_cons.mpr ⟨lw_p30, List.forall_mem_cons.mpr ⟨lw_p31, fun _ h => absurd h List.not_mem_nil⟩⟩⟩⟩⟩⟩⟩⟩⟩⟩⟩⟩⟩⟩⟩⟩
theorem lw_p32 : lw_okq (⟨"GateTurnsModel", "takes", "(I)V"⟩, 29) := ⟨⟨by decide +kernel, by decide +kernel⟩, List.mem_of_getElem? (i := 834) (by decide +kernel), List.mem_of_getElem? (i := 1004) (by decide +kernel), List.mem_of_getElem? (i := 1005) (by decide +kernel)⟩
theorem lw_p33 : lw_okq (⟨"GateTurnsModel", "tells", "(IIIII)V"⟩, 29) := ⟨⟨by decide +kernel, by decide +kernel⟩, List.mem_of_getElem? (i := 834) (by decide +kernel), List.mem_of_getElem? (i := 1012) (by decide +kernel), List.mem_of_getElem? (i := 1013) (by decide +kernel)⟩
theorem lw_p34 : lw_okq (⟨"GateTurnsModel", "field", "(III)I"⟩, 29) := ⟨⟨by decide +kernel, by decide +kernel⟩, List.mem_of_getElem? (i := 834) (by decide +kernel), List.mem_of_getElem? (i := 1023) (by decide +kernel), List.mem_of_getElem? (i := 1024) (by decide +kernel)⟩
theorem lw_p35 : lw_okq (⟨"GateTurnsModel", "isReady", "(I)Z"⟩, 29) := ⟨⟨by decide +kernel, by decide +kernel⟩, List.mem_of_getElem? (i := 834) (by decide +kernel), List.mem_of_getElem? (i := 1031) (by decide +kernel), List.mem_of_getElem? (i := 1032) (by decide +kernel)⟩
theorem lw_p36 : lw_okq (⟨"GateTurnsModel", "stepsTruly", "(I)V"⟩, 29) := ⟨⟨by decide +kernel, by decide +kernel⟩, List.mem_of_getElem? (i := 834) (by decide +kernel), List.mem_of_getElem? (i := 1035) (by decide +kernel), List.mem_of_getElem? (i := 1036) (by decide +kernel)⟩
theorem lw_p37 : lw_okq (⟨"GateTurnsModel", "steps", "(I)V"⟩, 29) := ⟨⟨by decide +kernel, by decide +kernel⟩, List.mem_of_getElem? (i := 834) (by decide +kernel), List.mem_of_getElem? (i := 1039) (by decide +kernel), List.mem_of_getElem? (i := 1040) (by decide +kernel)⟩
theorem lw_p38 : lw_okq (⟨"GateTurnsModel", "ends", "(II)V"⟩, 29) := ⟨⟨by decide +kernel, by decide +kernel⟩, List.mem_of_getElem? (i := 834) (by decide +kernel), List.mem_of_getElem? (i := 1043) (by decide +kernel), List.mem_of_getElem? (i := 1044) (by decide +kernel)⟩
theorem lw_p39 : lw_okq (⟨"GateTurnsModel", "isOwner", "(II)Z"⟩, 29) := ⟨⟨by decide +kernel, by decide +kernel⟩, List.mem_of_getElem? (i := 834) (by decide +kernel), List.mem_of_getElem? (i := 1047) (by decide +kernel), List.mem_of_getElem? (i := 1048) (by decide +kernel)⟩
theorem lw_p40 : lw_okq (⟨"GateTurnsModel", "frees", "(I)V"⟩, 29) := ⟨⟨by decide +kernel, by decide +kernel⟩, List.mem_of_getElem? (i := 834) (by decide +kernel), List.mem_of_getElem? (i := 1051) (by decide +kernel), List.mem_of_getElem? (i := 1052) (by decide +kernel)⟩
theorem lw_p41 : lw_okq (⟨"GateTurnsModel", "leaves", "(III)I"⟩, 29) := ⟨⟨by decide +kernel, by decide +kernel⟩, List.mem_of_getElem? (i := 834) (by decide +kernel), List.mem_of_getElem? (i := 1055) (by decide +kernel), List.mem_of_getElem? (i := 1056) (by decide +kernel)⟩
theorem lw_p42 : lw_okq (⟨"GateTurnsModel", "monitors", "(III)V"⟩, 29) := ⟨⟨by decide +kernel, by decide +kernel⟩, List.mem_of_getElem? (i := 834) (by decide +kernel), List.mem_of_getElem? (i := 1059) (by decide +kernel), List.mem_of_getElem? (i := 1060) (by decide +kernel)⟩
theorem lw_p43 : lw_okq (⟨"GateTurnsModel", "enters", "(II)V"⟩, 29) := ⟨⟨by decide +kernel, by decide +kernel⟩, List.mem_of_getElem? (i := 834) (by decide +kernel), List.mem_of_getElem? (i := 1063) (by decide +kernel), List.mem_of_getElem? (i := 1064) (by decide +kernel)⟩
theorem lw_p44 : lw_okq (⟨"GateTurnsModel", "comes", "(IIII)V"⟩, 29) := ⟨⟨by decide +kernel, by decide +kernel⟩, List.mem_of_getElem? (i := 834) (by decide +kernel), List.mem_of_getElem? (i := 1067) (by decide +kernel), List.mem_of_getElem? (i := 1068) (by decide +kernel)⟩
theorem lw_p45 : lw_okq (⟨"GateTurnsModel", "notifies", "(IZ)V"⟩, 29) := ⟨⟨by decide +kernel, by decide +kernel⟩, List.mem_of_getElem? (i := 834) (by decide +kernel), List.mem_of_getElem? (i := 1071) (by decide +kernel), List.mem_of_getElem? (i := 1072) (by decide +kernel)⟩
theorem lw_p46 : lw_okq (⟨"GateTurnsModel", "chosen", "(I)I"⟩, 29) := ⟨⟨by decide +kernel, by decide +kernel⟩, List.mem_of_getElem? (i := 834) (by decide +kernel), List.mem_of_getElem? (i := 1080) (by decide +kernel), List.mem_of_getElem? (i := 1081) (by decide +kernel)⟩
theorem lw_p47 : lw_okq (⟨"GateTurnsModel", "standsAt", "(I)I"⟩, 29) := ⟨⟨by decide +kernel, by decide +kernel⟩, List.mem_of_getElem? (i := 834) (by decide +kernel), List.mem_of_getElem? (i := 1095) (by decide +kernel), List.mem_of_getElem? (i := 1096) (by decide +kernel)⟩
def lw_privs_3 : List (MethodName × Nat) := [(⟨"GateTurnsModel", "takes", "(I)V"⟩, 29), (⟨"GateTurnsModel", "tells", "(IIIII)V"⟩, 29), (⟨"GateTurnsModel", "field", "(III)I"⟩, 29), (⟨"GateTurnsModel", "isReady", "(I)Z"⟩, 29), (⟨"GateTurnsModel", "stepsTruly", "(I)V"⟩, 29), (⟨"GateTurnsModel", "steps", "(I)V"⟩, 29), (⟨"GateTurnsModel", "ends", "(II)V"⟩, 29), (⟨"GateTurnsModel", "isOwner", "(II)Z"⟩, 29), (⟨"GateTurnsModel", "frees", "(I)V"⟩, 29), (⟨"GateTurnsModel", "leaves", "(III)I"⟩, 29), (⟨"GateTurnsModel", "monitors", "(III)V"⟩, 29), (⟨"GateTurnsModel", "enters", "(II)V"⟩, 29), (⟨"GateTurnsModel", "comes", "(IIII)V"⟩, 29), (⟨"GateTurnsModel", "notifies", "(IZ)V"⟩, 29), (⟨"GateTurnsModel", "chosen", "(I)I"⟩, 29), (⟨"GateTurnsModel", "standsAt", "(I)I"⟩, 29)]
theorem lw_r3 : ∀ q ∈ lw_privs_3, lw_okq q := List.forall_mem_cons.mpr ⟨lw_p32, List.forall_mem_cons.mpr ⟨lw_p33, List.forall_mem_cons.mpr ⟨lw_p34, List.forall_mem_cons.mpr ⟨lw_p35, List.forall_mem_cons.mpr ⟨lw_p36, List.forall_mem_cons.mpr ⟨lw_p37, List.forall_mem_cons.mpr ⟨lw_p38, List.forall_mem_cons.mpr ⟨lw_p39, List.forall_mem_cons.mpr ⟨lw_p40, List.forall_mem_cons.mpr ⟨lw_p41, List.forall_mem_cons.mpr ⟨lw_p42, List.forall_mem_cons.mpr ⟨lw_p43, List.forall_mem_cons.mpr ⟨lw_p44, List.forall_mem_cons.mpr ⟨lw_p45, List.forall_mem_cons.mpr ⟨lw_p46, List.forall_mem_cons.mpr ⟨lw_p47, fun _ h => absurd h List.not_mem_nil⟩⟩⟩⟩⟩⟩⟩⟩⟩⟩⟩⟩⟩⟩⟩⟩
theorem lw_p48 : lw_okq (⟨"GateTurnsModel", "ownedBy", "([III)I"⟩, 29) := ⟨⟨by decide +kernel, by decide +kernel⟩, List.mem_of_getElem? (i := 834) (by decide +kernel), List.mem_of_getElem? (i := 1099) (by decide +kernel), List.mem_of_getElem? (i := 1100) (by decide +kernel)⟩
theorem lw_p49 : lw_okq (⟨"GateTurnsModel", "areIn", "([III)I"⟩, 29) := ⟨⟨by decide +kernel, by decide +kernel⟩, List.mem_of_getElem? (i := 834) (by decide +kernel), List.mem_of_getElem? (i := 1116) (by decide +kernel), List.mem_of_getElem? (i := 1117) (by decide +kernel)⟩
theorem lw_p50 : lw_okq (⟨"GateTurnsModel", "sticks", "([II)Z"⟩, 29) := ⟨⟨by decide +kernel, by decide +kernel⟩, List.mem_of_getElem? (i := 834) (by decide +kernel), List.mem_of_getElem? (i := 1124) (by decide +kernel), List.mem_of_getElem? (i := 1125) (by decide +kernel)⟩
theorem lw_p51 : lw_okq (⟨"GateTurnsModel", "isOver", "([II)Z"⟩, 29) := ⟨⟨by decide +kernel, by decide +kernel⟩, List.mem_of_getElem? (i := 834) (by decide +kernel), List.mem_of_getElem? (i := 1128) (by decide +kernel), List.mem_of_getElem? (i := 1129) (by decide +kernel)⟩
theorem lw_p52 : lw_okq (⟨"GateTurnsModel", "findsAll", "()V"⟩, 29) := ⟨⟨by decide +kernel, by decide +kernel⟩, List.mem_of_getElem? (i := 834) (by decide +kernel), List.mem_of_getElem? (i := 1141) (by decide +kernel), List.mem_of_getElem? (i := 1142) (by decide +kernel)⟩
theorem lw_p53 : lw_okq (⟨"GateTurnsModel", "finds", "(II)V"⟩, 29) := ⟨⟨by decide +kernel, by decide +kernel⟩, List.mem_of_getElem? (i := 834) (by decide +kernel), List.mem_of_getElem? (i := 1145) (by decide +kernel), List.mem_of_getElem? (i := 1146) (by decide +kernel)⟩
theorem lw_p54 : lw_okq (⟨"GateTurnsModel", "isLike", "(I)Z"⟩, 29) := ⟨⟨by decide +kernel, by decide +kernel⟩, List.mem_of_getElem? (i := 834) (by decide +kernel), List.mem_of_getElem? (i := 1149) (by decide +kernel), List.mem_of_getElem? (i := 1150) (by decide +kernel)⟩
theorem lw_p55 : lw_okq (⟨"GateTurnsModel", "manyOf", "(Z)I"⟩, 29) := ⟨⟨by decide +kernel, by decide +kernel⟩, List.mem_of_getElem? (i := 834) (by decide +kernel), List.mem_of_getElem? (i := 1153) (by decide +kernel), List.mem_of_getElem? (i := 1154) (by decide +kernel)⟩
theorem lw_p56 : lw_okq (⟨"GateTurnsModel", "deepest", "()I"⟩, 29) := ⟨⟨by decide +kernel, by decide +kernel⟩, List.mem_of_getElem? (i := 834) (by decide +kernel), List.mem_of_getElem? (i := 1157) (by decide +kernel), List.mem_of_getElem? (i := 1158) (by decide +kernel)⟩
theorem lw_p57 : lw_okq (⟨"GateTurnsModel", "firstSticking", "()I"⟩, 29) := ⟨⟨by decide +kernel, by decide +kernel⟩, List.mem_of_getElem? (i := 834) (by decide +kernel), List.mem_of_getElem? (i := 1161) (by decide +kernel), List.mem_of_getElem? (i := 1162) (by decide +kernel)⟩
theorem lw_p58 : lw_okq (⟨"GateTurnsModel", "firstFailing", "()I"⟩, 29) := ⟨⟨by decide +kernel, by decide +kernel⟩, List.mem_of_getElem? (i := 834) (by decide +kernel), List.mem_of_getElem? (i := 1165) (by decide +kernel), List.mem_of_getElem? (i := 1166) (by decide +kernel)⟩
theorem lw_p59 : lw_okq (⟨"GateTurnsModel", "areSo", "([II)Z"⟩, 29) := ⟨⟨by decide +kernel, by decide +kernel⟩, List.mem_of_getElem? (i := 834) (by decide +kernel), List.mem_of_getElem? (i := 1169) (by decide +kernel), List.mem_of_getElem? (i := 1170) (by decide +kernel)⟩
theorem lw_p60 : lw_okq (⟨"GateTurnsModel", "outcomeAt", "(I)I"⟩, 29) := ⟨⟨by decide +kernel, by decide +kernel⟩, List.mem_of_getElem? (i := 834) (by decide +kernel), List.mem_of_getElem? (i := 1173) (by decide +kernel), List.mem_of_getElem? (i := 1174) (by decide +kernel)⟩
theorem lw_p61 : lw_okq (⟨"GateTurnsModel", "isOutcome", "(I)Z"⟩, 29) := ⟨⟨by decide +kernel, by decide +kernel⟩, List.mem_of_getElem? (i := 834) (by decide +kernel), List.mem_of_getElem? (i := 1177) (by decide +kernel), List.mem_of_getElem? (i := 1178) (by decide +kernel)⟩
theorem lw_p62 : lw_okq (⟨"GateTurnsModel", "areCellsLike", "(II)Z"⟩, 29) := ⟨⟨by decide +kernel, by decide +kernel⟩, List.mem_of_getElem? (i := 834) (by decide +kernel), List.mem_of_getElem? (i := 1181) (by decide +kernel), List.mem_of_getElem? (i := 1182) (by decide +kernel)⟩
theorem lw_p63 : lw_okq (⟨"GateTurnsModel", "isNested", "()Z"⟩, 29) := ⟨⟨by decide +kernel, by decide +kernel⟩, List.mem_of_getElem? (i := 834) (by decide +kernel), List.mem_of_getElem? (i := 1185) (by decide +kernel), List.mem_of_getElem? (i := 1186) (by decide +kernel)⟩
def lw_privs_4 : List (MethodName × Nat) := [(⟨"GateTurnsModel", "ownedBy", "([III)I"⟩, 29), (⟨"GateTurnsModel", "areIn", "([III)I"⟩, 29), (⟨"GateTurnsModel", "sticks", "([II)Z"⟩, 29), (⟨"GateTurnsModel", "isOver", "([II)Z"⟩, 29), (⟨"GateTurnsModel", "findsAll", "()V"⟩, 29), (⟨"GateTurnsModel", "finds", "(II)V"⟩, 29), (⟨"GateTurnsModel", "isLike", "(I)Z"⟩, 29), (⟨"GateTurnsModel", "manyOf", "(Z)I"⟩, 29), (⟨"GateTurnsModel", "deepest", "()I"⟩, 29), (⟨"GateTurnsModel", "firstSticking", "()I"⟩, 29), (⟨"GateTurnsModel", "firstFailing", "()I"⟩, 29), (⟨"GateTurnsModel", "areSo", "([II)Z"⟩, 29), (⟨"GateTurnsModel", "outcomeAt", "(I)I"⟩, 29), (⟨"GateTurnsModel", "isOutcome", "(I)Z"⟩, 29), (⟨"GateTurnsModel", "areCellsLike", "(II)Z"⟩, 29), (⟨"GateTurnsModel", "isNested", "()Z"⟩, 29)]
theorem lw_r4 : ∀ q ∈ lw_privs_4, lw_okq q := List.forall_mem_cons.mpr ⟨lw_p48, List.forall_mem_cons.mpr ⟨lw_p49, List.forall_mem_cons.mpr ⟨lw_p50, List.forall_mem_cons.mpr ⟨lw_p51, List.forall_mem_cons.mpr ⟨lw_p52, List.forall_mem_cons.mpr ⟨lw_p53, List.forall_mem_cons.mpr ⟨lw_p54, List.forall_mem_cons.mpr ⟨lw_p55, List.forall_mem_cons.mpr ⟨lw_p56, List.forall_mem_cons.mpr ⟨lw_p57, List.forall_mem_cons.mpr ⟨lw_p58, List.forall_mem_cons.mpr ⟨lw_p59, List.forall_mem_cons.mpr ⟨lw_p60, List.forall_mem_cons.mpr ⟨lw_p61, List.forall_mem_cons.mpr ⟨lw_p62, List.forall_mem_cons.mpr ⟨lw_p63, fun _ h => absurd h List.not_mem_nil⟩⟩⟩⟩⟩⟩⟩⟩⟩⟩⟩⟩⟩⟩⟩⟩
theorem lw_p64 : lw_okq (⟨"GateTurnsModel", "goal", "(I)I"⟩, 29) := ⟨⟨by decide +kernel, by decide +kernel⟩, List.mem_of_getElem? (i := 834) (by decide +kernel), List.mem_of_getElem? (i := 1193) (by decide +kernel), List.mem_of_getElem? (i := 1194) (by decide +kernel)⟩
theorem lw_p65 : lw_okq (⟨"GateTurnsModel", "onWay", "(II)I"⟩, 29) := ⟨⟨by decide +kernel, by decide +kernel⟩, List.mem_of_getElem? (i := 834) (by decide +kernel), List.mem_of_getElem? (i := 1197) (by decide +kernel), List.mem_of_getElem? (i := 1198) (by decide +kernel)⟩
theorem lw_p66 : lw_okq (⟨"GateTurnsModel", "underIn", "(I)I"⟩, 29) := ⟨⟨by decide +kernel, by decide +kernel⟩, List.mem_of_getElem? (i := 834) (by decide +kernel), List.mem_of_getElem? (i := 1213) (by decide +kernel), List.mem_of_getElem? (i := 1214) (by decide +kernel)⟩
def lw_privs_5 : List (MethodName × Nat) := [(⟨"GateTurnsModel", "goal", "(I)I"⟩, 29), (⟨"GateTurnsModel", "onWay", "(II)I"⟩, 29), (⟨"GateTurnsModel", "underIn", "(I)I"⟩, 29)]
theorem lw_r5 : ∀ q ∈ lw_privs_5, lw_okq q := List.forall_mem_cons.mpr ⟨lw_p64, List.forall_mem_cons.mpr ⟨lw_p65, List.forall_mem_cons.mpr ⟨lw_p66, fun _ h => absurd h List.not_mem_nil⟩⟩⟩
def lw_privs : List (MethodName × Nat) := lw_privs_1 ++ (lw_privs_2 ++ (lw_privs_3 ++ (lw_privs_4 ++ (lw_privs_5))))
def lw_tbl : List Cond := k2_sels lw_privs ++ tables_1
theorem lw_privs_ok : ∀ q ∈ lw_privs, lw_okq q := by
  show ∀ q ∈ lw_privs_1 ++ (lw_privs_2 ++ (lw_privs_3 ++ (lw_privs_4 ++ (lw_privs_5)))), lw_okq q
  exact List.forall_mem_append.mpr ⟨lw_r1, List.forall_mem_append.mpr ⟨lw_r2, List.forall_mem_append.mpr ⟨lw_r3, List.forall_mem_append.mpr ⟨lw_r4, lw_r5⟩⟩⟩⟩
end
section
def RX0 : String := "GateTurns$Conditions"
def TX0 : u_T := fun k => match k with
  | 0 => ("GateTurns$Conditions", "size", "I", false)
  | 1 => ("GateTurns$Conditions", "cell", "[I", true)
  | 2 => ("GateTurns$Conditions", "how", "[I", true)
  | _ => ("GateTurns$Conditions", "number", "[I", true)
def tyX0 : Nat → FieldType := fun k => match k with
  | 0 => .int
  | 1 => .array .int
  | 2 => .array .int
  | _ => .array .int
theorem nmX0 : ∀ a, a < 4 → ∀ b, b < 4 → a ≠ b → (TX0 a).2.1 ≠ (TX0 b).2.1 := by decide +kernel
theorem tyX0_ok : ∀ k, k < 4 → parseFieldDescriptor (TX0 k).2.2.1 = some (tyX0 k) := by decide +kernel
abbrev cX0_init : ByteArray := prog_2_method_1_code
def yX0_init : MethodName := ⟨RX0, "<init>", "()V"⟩
abbrev cX0_append : ByteArray := prog_2_method_2_code
def yX0_append : MethodName := ⟨RX0, "append", "(III)V"⟩
abbrev cX0_allSo : ByteArray := prog_2_method_3_code
def yX0_allSo : MethodName := ⟨RX0, "allSo", "([I)Z"⟩
abbrev cX0_isSo : ByteArray := prog_2_method_4_code
def yX0_isSo : MethodName := ⟨RX0, "isSo", "(III)Z"⟩
def RX1 : String := "GateTurns$Desk"
def TX1 : u_T := fun k => match k with
  | 0 => ("GateTurns$Desk", "tasks", "I", false)
  | 1 => ("GateTurns$Desk", "latest", "I", false)
  | 2 => ("GateTurns$Desk", "programs", "[LGateTurns$Program;", true)
  | 3 => ("GateTurns$Desk", "place", "[I", true)
  | 4 => ("GateTurns$Desk", "status", "[I", true)
  | 5 => ("GateTurns$Desk", "saved", "[I", true)
  | 6 => ("GateTurns$Desk", "reason", "[I", true)
  | 7 => ("GateTurns$Desk", "left", "[I", true)
  | 8 => ("GateTurns$Desk", "missing", "[Z", true)
  | 9 => ("GateTurns$Desk", "owner", "[I", true)
  | 10 => ("GateTurns$Desk", "count", "[I", true)
  | 11 => ("GateTurns$Desk", "entry", "[I", true)
  | 12 => ("GateTurns$Desk", "wait", "[I", true)
  | _ => ("GateTurns$Desk", "cells", "[I", true)
def tyX1 : Nat → FieldType := fun k => match k with
  | 0 => .int
  | 1 => .int
  | 2 => .array (.object "GateTurns$Program")
  | 3 => .array .int
  | 4 => .array .int
  | 5 => .array .int
  | 6 => .array .int
  | 7 => .array .int
  | 8 => .array .boolean
  | 9 => .array .int
  | 10 => .array .int
  | 11 => .array .int
  | 12 => .array .int
  | _ => .array .int
theorem nmX1 : ∀ a, a < 14 → ∀ b, b < 14 → a ≠ b → (TX1 a).2.1 ≠ (TX1 b).2.1 := by decide +kernel
theorem tyX1_ok : ∀ k, k < 14 → parseFieldDescriptor (TX1 k).2.2.1 = some (tyX1 k) := by decide +kernel
abbrev cX1_init : ByteArray := prog_3_method_1_code
def yX1_init : MethodName := ⟨RX1, "<init>", "()V"⟩
abbrev cX1_newTask : ByteArray := prog_3_method_2_code
def yX1_newTask : MethodName := ⟨RX1, "newTask", "()I"⟩
abbrev cX1_startAgain : ByteArray := prog_3_method_3_code
def yX1_startAgain : MethodName := ⟨RX1, "startAgain", "()V"⟩
abbrev cX1_forgetReasons : ByteArray := prog_3_method_4_code
def yX1_forgetReasons : MethodName := ⟨RX1, "forgetReasons", "()V"⟩
abbrev cX1_copyFrom : ByteArray := prog_3_method_5_code
def yX1_copyFrom : MethodName := ⟨RX1, "copyFrom", "(LGateTurns$Desk;)V"⟩
abbrev cX1_take : ByteArray := prog_3_method_6_code
def yX1_take : MethodName := ⟨RX1, "take", "(I)V"⟩
abbrev cX1_doAtMonitor : ByteArray := prog_3_method_7_code
def yX1_doAtMonitor : MethodName := ⟨RX1, "doAtMonitor", "(III)I"⟩
abbrev cX1_enter : ByteArray := prog_3_method_8_code
def yX1_enter : MethodName := ⟨RX1, "enter", "(II)I"⟩
abbrev cX1_wake : ByteArray := prog_3_method_9_code
def yX1_wake : MethodName := ⟨RX1, "wake", "(II)V"⟩
abbrev cX1_free : ByteArray := prog_3_method_10_code
def yX1_free : MethodName := ⟨RX1, "free", "(I)V"⟩
abbrev cX1_doWithCells : ByteArray := prog_3_method_11_code
def yX1_doWithCells : MethodName := ⟨RX1, "doWithCells", "(ILGateTurns$Program;I)I"⟩
abbrev cX1_end : ByteArray := prog_3_method_12_code
def yX1_end : MethodName := ⟨RX1, "end", "(II)V"⟩
abbrev cX1_chosenBy : ByteArray := prog_3_method_13_code
def yX1_chosenBy : MethodName := ⟨RX1, "chosenBy", "(I)I"⟩
abbrev cX1_isUsed : ByteArray := prog_3_method_14_code
def yX1_isUsed : MethodName := ⟨RX1, "isUsed", "(I)Z"⟩
abbrev cX1_whereStands : ByteArray := prog_3_method_15_code
def yX1_whereStands : MethodName := ⟨RX1, "whereStands", "(I)I"⟩
abbrev cX1_ownedBy : ByteArray := prog_3_method_16_code
def yX1_ownedBy : MethodName := ⟨RX1, "ownedBy", "(I)I"⟩
abbrev cX1_allThatAre : ByteArray := prog_3_method_17_code
def yX1_allThatAre : MethodName := ⟨RX1, "allThatAre", "(I)I"⟩
abbrev cX1_sticks : ByteArray := prog_3_method_18_code
def yX1_sticks : MethodName := ⟨RX1, "sticks", "()Z"⟩
abbrev cX1_isOver : ByteArray := prog_3_method_19_code
def yX1_isOver : MethodName := ⟨RX1, "isOver", "()Z"⟩
abbrev cX1_aboutToEnter : ByteArray := prog_3_method_20_code
def yX1_aboutToEnter : MethodName := ⟨RX1, "aboutToEnter", "(I)I"⟩
def RX2 : String := "GateTurns$Lists"
def TX2 : u_T := fun k => match k with
  | 0 => ("GateTurns$Lists", "sizes", "[I", true)
  | _ => ("GateTurns$Lists", "rows", "[[I", true)
def tyX2 : Nat → FieldType := fun k => match k with
  | 0 => .array .int
  | _ => .array (.array .int)
theorem nmX2 : ∀ a, a < 2 → ∀ b, b < 2 → a ≠ b → (TX2 a).2.1 ≠ (TX2 b).2.1 := by decide +kernel
theorem tyX2_ok : ∀ k, k < 2 → parseFieldDescriptor (TX2 k).2.2.1 = some (tyX2 k) := by decide +kernel
abbrev cX2_init : ByteArray := prog_4_method_1_code
def yX2_init : MethodName := ⟨RX2, "<init>", "()V"⟩
abbrev cX2_refusalOf : ByteArray := prog_4_method_2_code
def yX2_refusalOf : MethodName := ⟨RX2, "refusalOf", "(I)I"⟩
abbrev cX2_hasPlace : ByteArray := prog_4_method_3_code
def yX2_hasPlace : MethodName := ⟨RX2, "hasPlace", "(II)Z"⟩
abbrev cX2_begin : ByteArray := prog_4_method_4_code
def yX2_begin : MethodName := ⟨RX2, "begin", "(II)V"⟩
def RX3 : String := "GateTurns$Program"
def TX3 : u_T := fun k => match k with
  | 0 => ("GateTurns$Program", "size", "I", false)
  | _ => ("GateTurns$Program", "parts", "[I", true)
def tyX3 : Nat → FieldType := fun k => match k with
  | 0 => .int
  | _ => .array .int
theorem nmX3 : ∀ a, a < 2 → ∀ b, b < 2 → a ≠ b → (TX3 a).2.1 ≠ (TX3 b).2.1 := by decide +kernel
theorem tyX3_ok : ∀ k, k < 2 → parseFieldDescriptor (TX3 k).2.2.1 = some (tyX3 k) := by decide +kernel
abbrev cX3_init : ByteArray := prog_5_method_1_code
def yX3_init : MethodName := ⟨RX3, "<init>", "()V"⟩
abbrev cX3_part : ByteArray := prog_5_method_2_code
def yX3_part : MethodName := ⟨RX3, "part", "(II)I"⟩
abbrev cX3_append : ByteArray := prog_5_method_3_code
def yX3_append : MethodName := ⟨RX3, "append", "(IIII)V"⟩
abbrev cX3_copyFrom : ByteArray := prog_5_method_4_code
def yX3_copyFrom : MethodName := ⟨RX3, "copyFrom", "(LGateTurns$Program;)V"⟩
def RX4 : String := "GateTurns$Reader"
def TX4 : u_T := fun k => match k with
  | 0 => ("GateTurns$Reader", "tape", "LGateTurns$Tape;", true)
  | 1 => ("GateTurns$Reader", "draft", "LGateTurns$Program;", true)
  | 2 => ("GateTurns$Reader", "at", "I", false)
  | _ => ("GateTurns$Reader", "fault", "I", false)
def tyX4 : Nat → FieldType := fun k => match k with
  | 0 => .object "GateTurns$Tape"
  | 1 => .object "GateTurns$Program"
  | 2 => .int
  | _ => .int
theorem nmX4 : ∀ a, a < 4 → ∀ b, b < 4 → a ≠ b → (TX4 a).2.1 ≠ (TX4 b).2.1 := by decide +kernel
theorem tyX4_ok : ∀ k, k < 4 → parseFieldDescriptor (TX4 k).2.2.1 = some (tyX4 k) := by decide +kernel
abbrev cX4_init : ByteArray := prog_6_method_1_code
def yX4_init : MethodName := ⟨RX4, "<init>", "()V"⟩
abbrev cX4_read : ByteArray := prog_6_method_2_code
def yX4_read : MethodName := ⟨RX4, "read", "()I"⟩
abbrev cX4_readStatement : ByteArray := prog_6_method_3_code
def yX4_readStatement : MethodName := ⟨RX4, "readStatement", "()V"⟩
abbrev cX4_readWord : ByteArray := prog_6_method_4_code
def yX4_readWord : MethodName := ⟨RX4, "readWord", "()I"⟩
abbrev cX4_isWord : ByteArray := prog_6_method_5_code
def yX4_isWord : MethodName := ⟨RX4, "isWord", "(Ljava/lang/String;I)Z"⟩
abbrev cX4_wordOf : ByteArray := prog_6_method_6_code
def yX4_wordOf : MethodName := ⟨RX4, "wordOf", "(I)Ljava/lang/String;"⟩
abbrev cX4_readBlank : ByteArray := prog_6_method_7_code
def yX4_readBlank : MethodName := ⟨RX4, "readBlank", "()V"⟩
abbrev cX4_readFigureBelow : ByteArray := prog_6_method_8_code
def yX4_readFigureBelow : MethodName := ⟨RX4, "readFigureBelow", "(I)I"⟩
abbrev cX4_readTarget : ByteArray := prog_6_method_9_code
def yX4_readTarget : MethodName := ⟨RX4, "readTarget", "()I"⟩
abbrev cX4_readNumber : ByteArray := prog_6_method_10_code
def yX4_readNumber : MethodName := ⟨RX4, "readNumber", "()I"⟩
abbrev cX4_takeFigures : ByteArray := prog_6_method_11_code
def yX4_takeFigures : MethodName := ⟨RX4, "takeFigures", "(I)I"⟩
abbrev cX4_allowed : ByteArray := prog_6_method_12_code
def yX4_allowed : MethodName := ⟨RX4, "allowed", "(III)I"⟩
def RX5 : String := "GateTurns$Row"
def TX5 : u_T := fun k => match k with
  | _ => ("", "", "", false)
def tyX5 : Nat → FieldType := fun k => match k with
  | _ => .int
theorem nmX5 : ∀ a, a < 0 → ∀ b, b < 0 → a ≠ b → (TX5 a).2.1 ≠ (TX5 b).2.1 := by decide +kernel
theorem tyX5_ok : ∀ k, k < 0 → parseFieldDescriptor (TX5 k).2.2.1 = some (tyX5 k) := by decide +kernel
abbrev cX5_at : ByteArray := prog_7_method_2_code
def yX5_at : MethodName := ⟨RX5, "at", "(II)I"⟩
abbrev cX5_length : ByteArray := prog_7_method_3_code
def yX5_length : MethodName := ⟨RX5, "length", "(I)I"⟩
abbrev cX5_withLast : ByteArray := prog_7_method_4_code
def yX5_withLast : MethodName := ⟨RX5, "withLast", "(II)I"⟩
abbrev cX5_withoutFirst : ByteArray := prog_7_method_5_code
def yX5_withoutFirst : MethodName := ⟨RX5, "withoutFirst", "(I)I"⟩
abbrev cX5_has : ByteArray := prog_7_method_6_code
def yX5_has : MethodName := ⟨RX5, "has", "(II)Z"⟩
def RX6 : String := "GateTurns$Search"
def TX6 : u_T := fun k => match k with
  | 0 => ("GateTurns$Search", "known", "Z", false)
  | 1 => ("GateTurns$Search", "desk", "LGateTurns$Desk;", true)
  | 2 => ("GateTurns$Search", "states", "LGateTurns$States;", true)
  | 3 => ("GateTurns$Search", "cameFrom", "[I", true)
  | 4 => ("GateTurns$Search", "mover", "[I", true)
  | 5 => ("GateTurns$Search", "depth", "[I", true)
  | 6 => ("GateTurns$Search", "outcomes", "[I", true)
  | 7 => ("GateTurns$Search", "under", "[I", true)
  | 8 => ("GateTurns$Search", "all", "Z", false)
  | 9 => ("GateTurns$Search", "nested", "Z", false)
  | 10 => ("GateTurns$Search", "sticking", "I", false)
  | 11 => ("GateTurns$Search", "failing", "I", false)
  | 12 => ("GateTurns$Search", "howManyStick", "I", false)
  | 13 => ("GateTurns$Search", "howManyOver", "I", false)
  | _ => ("GateTurns$Search", "howManyOutcomes", "I", false)
def tyX6 : Nat → FieldType := fun k => match k with
  | 0 => .boolean
  | 1 => .object "GateTurns$Desk"
  | 2 => .object "GateTurns$States"
  | 3 => .array .int
  | 4 => .array .int
  | 5 => .array .int
  | 6 => .array .int
  | 7 => .array .int
  | 8 => .boolean
  | 9 => .boolean
  | 10 => .int
  | 11 => .int
  | 12 => .int
  | 13 => .int
  | _ => .int
theorem nmX6 : ∀ a, a < 15 → ∀ b, b < 15 → a ≠ b → (TX6 a).2.1 ≠ (TX6 b).2.1 := by decide +kernel
theorem tyX6_ok : ∀ k, k < 15 → parseFieldDescriptor (TX6 k).2.2.1 = some (tyX6 k) := by decide +kernel
abbrev cX6_init : ByteArray := prog_8_method_1_code
def yX6_init : MethodName := ⟨RX6, "<init>", "()V"⟩
abbrev cX6_forget : ByteArray := prog_8_method_2_code
def yX6_forget : MethodName := ⟨RX6, "forget", "()V"⟩
abbrev cX6_explore : ByteArray := prog_8_method_3_code
def yX6_explore : MethodName := ⟨RX6, "explore", "(LGateTurns$Desk;LGateTurns$Conditions;)V"⟩
abbrev cX6_begin : ByteArray := prog_8_method_4_code
def yX6_begin : MethodName := ⟨RX6, "begin", "(LGateTurns$Desk;)V"⟩
abbrev cX6_note : ByteArray := prog_8_method_5_code
def yX6_note : MethodName := ⟨RX6, "note", "(IIILGateTurns$Conditions;)V"⟩
abbrev cX6_noteOutcome : ByteArray := prog_8_method_6_code
def yX6_noteOutcome : MethodName := ⟨RX6, "noteOutcome", "()V"⟩
abbrev cX6_noteMonitors : ByteArray := prog_8_method_7_code
def yX6_noteMonitors : MethodName := ⟨RX6, "noteMonitors", "()V"⟩
abbrev cX6_greatestDepth : ByteArray := prog_8_method_8_code
def yX6_greatestDepth : MethodName := ⟨RX6, "greatestDepth", "()I"⟩
abbrev cX6_depthOf : ByteArray := prog_8_method_9_code
def yX6_depthOf : MethodName := ⟨RX6, "depthOf", "(I)I"⟩
abbrev cX6_moverOf : ByteArray := prog_8_method_10_code
def yX6_moverOf : MethodName := ⟨RX6, "moverOf", "(II)I"⟩
abbrev cX6_cellOfOutcome : ByteArray := prog_8_method_11_code
def yX6_cellOfOutcome : MethodName := ⟨RX6, "cellOfOutcome", "(II)I"⟩
abbrev cX6_goesRound : ByteArray := prog_8_method_12_code
def yX6_goesRound : MethodName := ⟨RX6, "goesRound", "()Z"⟩
def RX7 : String := "GateTurns$States"
def TX7 : u_T := fun k => match k with
  | 0 => ("GateTurns$States", "size", "I", false)
  | 1 => ("GateTurns$States", "words", "[I", true)
  | 2 => ("GateTurns$States", "draft", "[I", true)
  | _ => ("GateTurns$States", "slots", "[I", true)
def tyX7 : Nat → FieldType := fun k => match k with
  | 0 => .int
  | 1 => .array .int
  | 2 => .array .int
  | _ => .array .int
theorem nmX7 : ∀ a, a < 4 → ∀ b, b < 4 → a ≠ b → (TX7 a).2.1 ≠ (TX7 b).2.1 := by decide +kernel
theorem tyX7_ok : ∀ k, k < 4 → parseFieldDescriptor (TX7 k).2.2.1 = some (tyX7 k) := by decide +kernel
abbrev cX7_init : ByteArray := prog_9_method_1_code
def yX7_init : MethodName := ⟨RX7, "<init>", "()V"⟩
abbrev cX7_empty : ByteArray := prog_9_method_2_code
def yX7_empty : MethodName := ⟨RX7, "empty", "()V"⟩
abbrev cX7_keep : ByteArray := prog_9_method_3_code
def yX7_keep : MethodName := ⟨RX7, "keep", "(LGateTurns$Desk;)I"⟩
abbrev cX7_firstSlot : ByteArray := prog_9_method_4_code
def yX7_firstSlot : MethodName := ⟨RX7, "firstSlot", "()I"⟩
abbrev cX7_isDraft : ByteArray := prog_9_method_5_code
def yX7_isDraft : MethodName := ⟨RX7, "isDraft", "(I)Z"⟩
abbrev cX7_pack : ByteArray := prog_9_method_6_code
def yX7_pack : MethodName := ⟨RX7, "pack", "(LGateTurns$Desk;)V"⟩
abbrev cX7_packedTask : ByteArray := prog_9_method_7_code
def yX7_packedTask : MethodName := ⟨RX7, "packedTask", "(LGateTurns$Desk;I)I"⟩
abbrev cX7_packedCells : ByteArray := prog_9_method_8_code
def yX7_packedCells : MethodName := ⟨RX7, "packedCells", "([I)I"⟩
abbrev cX7_unpackedCell : ByteArray := prog_9_method_9_code
def yX7_unpackedCell : MethodName := ⟨RX7, "unpackedCell", "(II)I"⟩
abbrev cX7_unpack : ByteArray := prog_9_method_10_code
def yX7_unpack : MethodName := ⟨RX7, "unpack", "(ILGateTurns$Desk;)V"⟩
def RX8 : String := "GateTurns$Tape"
def TX8 : u_T := fun k => match k with
  | 0 => ("GateTurns$Tape", "bytes", "[I", true)
  | _ => ("GateTurns$Tape", "size", "I", false)
def tyX8 : Nat → FieldType := fun k => match k with
  | 0 => .array .int
  | _ => .int
theorem nmX8 : ∀ a, a < 2 → ∀ b, b < 2 → a ≠ b → (TX8 a).2.1 ≠ (TX8 b).2.1 := by decide +kernel
theorem tyX8_ok : ∀ k, k < 2 → parseFieldDescriptor (TX8 k).2.2.1 = some (tyX8 k) := by decide +kernel
abbrev cX8_init : ByteArray := prog_10_method_1_code
def yX8_init : MethodName := ⟨RX8, "<init>", "()V"⟩
abbrev cX8_append : ByteArray := prog_10_method_2_code
def yX8_append : MethodName := ⟨RX8, "append", "(I)V"⟩
abbrev cX8_at : ByteArray := prog_10_method_3_code
def yX8_at : MethodName := ⟨RX8, "at", "(I)I"⟩
def RX9 : String := "GateTurns$Trouble"
def TX9 : u_T := fun k => match k with
  | 0 => ("GateTurns$Trouble", "size", "I", false)
  | 1 => ("GateTurns$Trouble", "sorts", "[I", true)
  | _ => ("GateTurns$Trouble", "numbers", "[I", true)
def tyX9 : Nat → FieldType := fun k => match k with
  | 0 => .int
  | 1 => .array .int
  | _ => .array .int
theorem nmX9 : ∀ a, a < 3 → ∀ b, b < 3 → a ≠ b → (TX9 a).2.1 ≠ (TX9 b).2.1 := by decide +kernel
theorem tyX9_ok : ∀ k, k < 3 → parseFieldDescriptor (TX9 k).2.2.1 = some (tyX9 k) := by decide +kernel
abbrev cX9_init : ByteArray := prog_11_method_1_code
def yX9_init : MethodName := ⟨RX9, "<init>", "()V"⟩
abbrev cX9_ofProgram : ByteArray := prog_11_method_2_code
def yX9_ofProgram : MethodName := ⟨RX9, "ofProgram", "(III)V"⟩
abbrev cX9_ofStep : ByteArray := prog_11_method_3_code
def yX9_ofStep : MethodName := ⟨RX9, "ofStep", "(IIII)V"⟩
abbrev cX9_append : ByteArray := prog_11_method_4_code
def yX9_append : MethodName := ⟨RX9, "append", "(II)V"⟩
abbrev cX9_link : ByteArray := prog_11_method_5_code
def yX9_link : MethodName := ⟨RX9, "link", "(II)I"⟩
def RX10 : String := "GateTurns"
def TX10 : u_T := fun k => match k with
  | 0 => ("GateTurns", "now", "LGateTurns$Desk;", true)
  | 1 => ("GateTurns", "kept", "LGateTurns$Desk;", true)
  | 2 => ("GateTurns", "hasImage", "Z", false)
  | 3 => ("GateTurns", "reader", "LGateTurns$Reader;", true)
  | 4 => ("GateTurns", "tape", "LGateTurns$Tape;", true)
  | 5 => ("GateTurns", "trouble", "LGateTurns$Trouble;", true)
  | 6 => ("GateTurns", "conditions", "LGateTurns$Conditions;", true)
  | 7 => ("GateTurns", "search", "LGateTurns$Search;", true)
  | _ => ("GateTurns", "lists", "LGateTurns$Lists;", true)
def tyX10 : Nat → FieldType := fun k => match k with
  | 0 => .object "GateTurns$Desk"
  | 1 => .object "GateTurns$Desk"
  | 2 => .boolean
  | 3 => .object "GateTurns$Reader"
  | 4 => .object "GateTurns$Tape"
  | 5 => .object "GateTurns$Trouble"
  | 6 => .object "GateTurns$Conditions"
  | 7 => .object "GateTurns$Search"
  | _ => .object "GateTurns$Lists"
theorem nmX10 : ∀ a, a < 9 → ∀ b, b < 9 → a ≠ b → (TX10 a).2.1 ≠ (TX10 b).2.1 := by decide +kernel
theorem tyX10_ok : ∀ k, k < 9 → parseFieldDescriptor (TX10 k).2.2.1 = some (tyX10 k) := by decide +kernel
abbrev cX10_init : ByteArray := prog_1_method_1_code
def yX10_init : MethodName := ⟨RX10, "<init>", "()V"⟩
abbrev cX10_task : ByteArray := prog_1_method_2_code
def yX10_task : MethodName := ⟨RX10, "task", "()I"⟩
abbrev cX10_restart : ByteArray := prog_1_method_3_code
def yX10_restart : MethodName := ⟨RX10, "restart", "()I"⟩
abbrev cX10_missing : ByteArray := prog_1_method_4_code
def yX10_missing : MethodName := ⟨RX10, "missing", "(IZ)I"⟩
abbrev cX10_put : ByteArray := prog_1_method_5_code
def yX10_put : MethodName := ⟨RX10, "put", "(II)I"⟩
abbrev cX10_cell : ByteArray := prog_1_method_6_code
def yX10_cell : MethodName := ⟨RX10, "cell", "(I)I"⟩
abbrev cX10_feed : ByteArray := prog_1_method_7_code
def yX10_feed : MethodName := ⟨RX10, "feed", "(I)I"⟩
abbrev cX10_clear : ByteArray := prog_1_method_8_code
def yX10_clear : MethodName := ⟨RX10, "clear", "()I"⟩
abbrev cX10_program : ByteArray := prog_1_method_9_code
def yX10_program : MethodName := ⟨RX10, "program", "(I)I"⟩
abbrev cX10_statement : ByteArray := prog_1_method_10_code
def yX10_statement : MethodName := ⟨RX10, "statement", "(III)I"⟩
abbrev cX10_step : ByteArray := prog_1_method_11_code
def yX10_step : MethodName := ⟨RX10, "step", "(I)I"⟩
abbrev cX10_run : ByteArray := prog_1_method_12_code
def yX10_run : MethodName := ⟨RX10, "run", "(II)I"⟩
abbrev cX10_follow : ByteArray := prog_1_method_13_code
def yX10_follow : MethodName := ⟨RX10, "follow", "(III)I"⟩
abbrev cX10_of : ByteArray := prog_1_method_14_code
def yX10_of : MethodName := ⟨RX10, "of", "(II)I"⟩
abbrev cX10_gate : ByteArray := prog_1_method_15_code
def yX10_gate : MethodName := ⟨RX10, "gate", "(II)I"⟩
abbrev cX10_stands : ByteArray := prog_1_method_16_code
def yX10_stands : MethodName := ⟨RX10, "stands", "(III)I"⟩
abbrev cX10_are : ByteArray := prog_1_method_17_code
def yX10_are : MethodName := ⟨RX10, "are", "(I)I"⟩
abbrev cX10_told : ByteArray := prog_1_method_18_code
def yX10_told : MethodName := ⟨RX10, "told", "(I)I"⟩
abbrev cX10_cause : ByteArray := prog_1_method_19_code
def yX10_cause : MethodName := ⟨RX10, "cause", "(II)I"⟩
abbrev cX10_found : ByteArray := prog_1_method_20_code
def yX10_found : MethodName := ⟨RX10, "found", "(I)I"⟩
abbrev cX10_schedule : ByteArray := prog_1_method_21_code
def yX10_schedule : MethodName := ⟨RX10, "schedule", "(II)I"⟩
abbrev cX10_lay : ByteArray := prog_1_method_22_code
def yX10_lay : MethodName := ⟨RX10, "lay", "(III)I"⟩
abbrev cX10_outcome : ByteArray := prog_1_method_23_code
def yX10_outcome : MethodName := ⟨RX10, "outcome", "(II)I"⟩
abbrev cX10_under : ByteArray := prog_1_method_24_code
def yX10_under : MethodName := ⟨RX10, "under", "(I)I"⟩
abbrev cX10_round : ByteArray := prog_1_method_25_code
def yX10_round : MethodName := ⟨RX10, "round", "()I"⟩
abbrev cX10_condition : ByteArray := prog_1_method_26_code
def yX10_condition : MethodName := ⟨RX10, "condition", "(III)I"⟩
abbrev cX10_holds : ByteArray := prog_1_method_27_code
def yX10_holds : MethodName := ⟨RX10, "holds", "()I"⟩
abbrev cX10_list : ByteArray := prog_1_method_28_code
def yX10_list : MethodName := ⟨RX10, "list", "(II)I"⟩
abbrev cX10_set : ByteArray := prog_1_method_29_code
def yX10_set : MethodName := ⟨RX10, "set", "(III)I"⟩
abbrev cX10_get : ByteArray := prog_1_method_30_code
def yX10_get : MethodName := ⟨RX10, "get", "(II)I"⟩
abbrev cX10_image : ByteArray := prog_1_method_31_code
def yX10_image : MethodName := ⟨RX10, "image", "()I"⟩
abbrev cX10_back : ByteArray := prog_1_method_32_code
def yX10_back : MethodName := ⟨RX10, "back", "()I"⟩
abbrev cX10_isTask : ByteArray := prog_1_method_33_code
def yX10_isTask : MethodName := ⟨RX10, "isTask", "(I)Z"⟩
abbrev cX10_isMonitor : ByteArray := prog_1_method_34_code
def yX10_isMonitor : MethodName := ⟨RX10, "isMonitor", "(I)Z"⟩
abbrev cX10_isCell : ByteArray := prog_1_method_35_code
def yX10_isCell : MethodName := ⟨RX10, "isCell", "(I)Z"⟩
abbrev cX10_isCellNumber : ByteArray := prog_1_method_36_code
def yX10_isCellNumber : MethodName := ⟨RX10, "isCellNumber", "(I)Z"⟩
abbrev cX10_isList : ByteArray := prog_1_method_37_code
def yX10_isList : MethodName := ⟨RX10, "isList", "(I)Z"⟩
abbrev cX10_asNumber : ByteArray := prog_1_method_38_code
def yX10_asNumber : MethodName := ⟨RX10, "asNumber", "(Z)I"⟩
abbrev cX10_takeTruly : ByteArray := prog_1_method_39_code
def yX10_takeTruly : MethodName := ⟨RX10, "takeTruly", "(I)V"⟩
def RX11 : String := "GateTurnsModel"
def TX11 : u_T := fun k => match k with
  | 0 => ("GateTurnsModel", "g", "[I", true)
  | 1 => ("GateTurnsModel", "kept", "[I", true)
  | 2 => ("GateTurnsModel", "s", "[I", true)
  | 3 => ("GateTurnsModel", "reasons", "[I", true)
  | 4 => ("GateTurnsModel", "lefts", "[I", true)
  | 5 => ("GateTurnsModel", "isKept", "Z", false)
  | 6 => ("GateTurnsModel", "tape", "[I", true)
  | 7 => ("GateTurnsModel", "read", "[I", true)
  | 8 => ("GateTurnsModel", "letters", "[I", true)
  | 9 => ("GateTurnsModel", "fed", "I", false)
  | 10 => ("GateTurnsModel", "at", "I", false)
  | 11 => ("GateTurnsModel", "fault", "I", false)
  | 12 => ("GateTurnsModel", "whole", "I", false)
  | 13 => ("GateTurnsModel", "sorts", "[I", true)
  | 14 => ("GateTurnsModel", "numbers", "[I", true)
  | 15 => ("GateTurnsModel", "troubles", "I", false)
  | 16 => ("GateTurnsModel", "reason", "I", false)
  | 17 => ("GateTurnsModel", "owned", "I", false)
  | 18 => ("GateTurnsModel", "states", "[I", true)
  | 19 => ("GateTurnsModel", "ahead", "[I", true)
  | 20 => ("GateTurnsModel", "by", "[I", true)
  | 21 => ("GateTurnsModel", "depths", "[I", true)
  | 22 => ("GateTurnsModel", "marks", "[I", true)
  | 23 => ("GateTurnsModel", "found", "I", false)
  | 24 => ("GateTurnsModel", "isAll", "Z", false)
  | 25 => ("GateTurnsModel", "told", "[I", true)
  | 26 => ("GateTurnsModel", "conditions", "I", false)
  | 27 => ("GateTurnsModel", "sizes", "[I", true)
  | _ => ("GateTurnsModel", "items", "[I", true)
def tyX11 : Nat → FieldType := fun k => match k with
  | 0 => .array .int
  | 1 => .array .int
  | 2 => .array .int
  | 3 => .array .int
  | 4 => .array .int
  | 5 => .boolean
  | 6 => .array .int
  | 7 => .array .int
  | 8 => .array .int
  | 9 => .int
  | 10 => .int
  | 11 => .int
  | 12 => .int
  | 13 => .array .int
  | 14 => .array .int
  | 15 => .int
  | 16 => .int
  | 17 => .int
  | 18 => .array .int
  | 19 => .array .int
  | 20 => .array .int
  | 21 => .array .int
  | 22 => .array .int
  | 23 => .int
  | 24 => .boolean
  | 25 => .array .int
  | 26 => .int
  | 27 => .array .int
  | _ => .array .int
theorem nmX11 : ∀ a, a < 29 → ∀ b, b < 29 → a ≠ b → (TX11 a).2.1 ≠ (TX11 b).2.1 := by decide +kernel
theorem tyX11_ok : ∀ k, k < 29 → parseFieldDescriptor (TX11 k).2.2.1 = some (tyX11 k) := by decide +kernel
abbrev cX11_init : ByteArray := prog_13_method_1_code
def yX11_init : MethodName := ⟨RX11, "<init>", "()V"⟩
abbrev cX11_in : ByteArray := prog_13_method_2_code
def yX11_in : MethodName := ⟨RX11, "in", "(JJJ)Z"⟩
abbrev cX11_has : ByteArray := prog_13_method_3_code
def yX11_has : MethodName := ⟨RX11, "has", "(II)Z"⟩
abbrev cX11_copies : ByteArray := prog_13_method_4_code
def yX11_copies : MethodName := ⟨RX11, "copies", "([II[III)V"⟩
abbrev cX11_isTask : ByteArray := prog_13_method_5_code
def yX11_isTask : MethodName := ⟨RX11, "isTask", "(I)Z"⟩
abbrev cX11_isMonitor : ByteArray := prog_13_method_6_code
def yX11_isMonitor : MethodName := ⟨RX11, "isMonitor", "(I)Z"⟩
abbrev cX11_isCell : ByteArray := prog_13_method_7_code
def yX11_isCell : MethodName := ⟨RX11, "isCell", "(I)Z"⟩
abbrev cX11_task : ByteArray := prog_13_method_8_code
def yX11_task : MethodName := ⟨RX11, "task", "()I"⟩
abbrev cX11_restart : ByteArray := prog_13_method_9_code
def yX11_restart : MethodName := ⟨RX11, "restart", "()I"⟩
abbrev cX11_missing : ByteArray := prog_13_method_10_code
def yX11_missing : MethodName := ⟨RX11, "missing", "(IZ)I"⟩
abbrev cX11_put : ByteArray := prog_13_method_11_code
def yX11_put : MethodName := ⟨RX11, "put", "(II)I"⟩
abbrev cX11_cell : ByteArray := prog_13_method_12_code
def yX11_cell : MethodName := ⟨RX11, "cell", "(I)I"⟩
abbrev cX11_feed : ByteArray := prog_13_method_13_code
def yX11_feed : MethodName := ⟨RX11, "feed", "(I)I"⟩
abbrev cX11_clear : ByteArray := prog_13_method_14_code
def yX11_clear : MethodName := ⟨RX11, "clear", "()I"⟩
abbrev cX11_here : ByteArray := prog_13_method_15_code
def yX11_here : MethodName := ⟨RX11, "here", "()I"⟩
abbrev cX11_must : ByteArray := prog_13_method_16_code
def yX11_must : MethodName := ⟨RX11, "must", "(ZI)V"⟩
abbrev cX11_takes : ByteArray := prog_13_method_17_code
def yX11_takes : MethodName := ⟨RX11, "takes", "(I)V"⟩
abbrev cX11_isWord : ByteArray := prog_13_method_18_code
def yX11_isWord : MethodName := ⟨RX11, "isWord", "(II)Z"⟩
abbrev cX11_word : ByteArray := prog_13_method_19_code
def yX11_word : MethodName := ⟨RX11, "word", "()I"⟩
abbrev cX11_number : ByteArray := prog_13_method_20_code
def yX11_number : MethodName := ⟨RX11, "number", "(IIZ)I"⟩
abbrev cX11_statement1 : ByteArray := prog_13_method_21_code
def yX11_statement1 : MethodName := ⟨RX11, "statement1", "(I)V"⟩
abbrev cX11_tells : ByteArray := prog_13_method_22_code
def yX11_tells : MethodName := ⟨RX11, "tells", "(IIIII)V"⟩
abbrev cX11_program : ByteArray := prog_13_method_23_code
def yX11_program : MethodName := ⟨RX11, "program", "(I)I"⟩
abbrev cX11_field : ByteArray := prog_13_method_24_code
def yX11_field : MethodName := ⟨RX11, "field", "(III)I"⟩
abbrev cX11_statement : ByteArray := prog_13_method_25_code
def yX11_statement : MethodName := ⟨RX11, "statement", "(III)I"⟩
abbrev cX11_isOwner : ByteArray := prog_13_method_26_code
def yX11_isOwner : MethodName := ⟨RX11, "isOwner", "(II)Z"⟩
abbrev cX11_comes : ByteArray := prog_13_method_27_code
def yX11_comes : MethodName := ⟨RX11, "comes", "(IIII)V"⟩
abbrev cX11_leaves : ByteArray := prog_13_method_28_code
def yX11_leaves : MethodName := ⟨RX11, "leaves", "(III)I"⟩
abbrev cX11_frees : ByteArray := prog_13_method_29_code
def yX11_frees : MethodName := ⟨RX11, "frees", "(I)V"⟩
abbrev cX11_ends : ByteArray := prog_13_method_30_code
def yX11_ends : MethodName := ⟨RX11, "ends", "(II)V"⟩
abbrev cX11_enters : ByteArray := prog_13_method_31_code
def yX11_enters : MethodName := ⟨RX11, "enters", "(II)V"⟩
abbrev cX11_notifies : ByteArray := prog_13_method_32_code
def yX11_notifies : MethodName := ⟨RX11, "notifies", "(IZ)V"⟩
abbrev cX11_monitors : ByteArray := prog_13_method_33_code
def yX11_monitors : MethodName := ⟨RX11, "monitors", "(III)V"⟩
abbrev cX11_steps : ByteArray := prog_13_method_34_code
def yX11_steps : MethodName := ⟨RX11, "steps", "(I)V"⟩
abbrev cX11_stepsTruly : ByteArray := prog_13_method_35_code
def yX11_stepsTruly : MethodName := ⟨RX11, "stepsTruly", "(I)V"⟩
abbrev cX11_isReady : ByteArray := prog_13_method_36_code
def yX11_isReady : MethodName := ⟨RX11, "isReady", "(I)Z"⟩
abbrev cX11_step : ByteArray := prog_13_method_37_code
def yX11_step : MethodName := ⟨RX11, "step", "(I)I"⟩
abbrev cX11_chosen : ByteArray := prog_13_method_38_code
def yX11_chosen : MethodName := ⟨RX11, "chosen", "(I)I"⟩
abbrev cX11_run : ByteArray := prog_13_method_39_code
def yX11_run : MethodName := ⟨RX11, "run", "(II)I"⟩
abbrev cX11_follow : ByteArray := prog_13_method_40_code
def yX11_follow : MethodName := ⟨RX11, "follow", "(III)I"⟩
abbrev cX11_standsAt : ByteArray := prog_13_method_41_code
def yX11_standsAt : MethodName := ⟨RX11, "standsAt", "(I)I"⟩
abbrev cX11_ownedBy : ByteArray := prog_13_method_42_code
def yX11_ownedBy : MethodName := ⟨RX11, "ownedBy", "([III)I"⟩
abbrev cX11_of : ByteArray := prog_13_method_43_code
def yX11_of : MethodName := ⟨RX11, "of", "(II)I"⟩
abbrev cX11_gate : ByteArray := prog_13_method_44_code
def yX11_gate : MethodName := ⟨RX11, "gate", "(II)I"⟩
abbrev cX11_stands : ByteArray := prog_13_method_45_code
def yX11_stands : MethodName := ⟨RX11, "stands", "(III)I"⟩
abbrev cX11_areIn : ByteArray := prog_13_method_46_code
def yX11_areIn : MethodName := ⟨RX11, "areIn", "([III)I"⟩
abbrev cX11_are : ByteArray := prog_13_method_47_code
def yX11_are : MethodName := ⟨RX11, "are", "(I)I"⟩
abbrev cX11_sticks : ByteArray := prog_13_method_48_code
def yX11_sticks : MethodName := ⟨RX11, "sticks", "([II)Z"⟩
abbrev cX11_isOver : ByteArray := prog_13_method_49_code
def yX11_isOver : MethodName := ⟨RX11, "isOver", "([II)Z"⟩
abbrev cX11_told : ByteArray := prog_13_method_50_code
def yX11_told : MethodName := ⟨RX11, "told", "(I)I"⟩
abbrev cX11_cause : ByteArray := prog_13_method_51_code
def yX11_cause : MethodName := ⟨RX11, "cause", "(II)I"⟩
abbrev cX11_isLike : ByteArray := prog_13_method_52_code
def yX11_isLike : MethodName := ⟨RX11, "isLike", "(I)Z"⟩
abbrev cX11_finds : ByteArray := prog_13_method_53_code
def yX11_finds : MethodName := ⟨RX11, "finds", "(II)V"⟩
abbrev cX11_findsAll : ByteArray := prog_13_method_54_code
def yX11_findsAll : MethodName := ⟨RX11, "findsAll", "()V"⟩
abbrev cX11_firstSticking : ByteArray := prog_13_method_55_code
def yX11_firstSticking : MethodName := ⟨RX11, "firstSticking", "()I"⟩
abbrev cX11_firstFailing : ByteArray := prog_13_method_56_code
def yX11_firstFailing : MethodName := ⟨RX11, "firstFailing", "()I"⟩
abbrev cX11_deepest : ByteArray := prog_13_method_57_code
def yX11_deepest : MethodName := ⟨RX11, "deepest", "()I"⟩
abbrev cX11_areCellsLike : ByteArray := prog_13_method_58_code
def yX11_areCellsLike : MethodName := ⟨RX11, "areCellsLike", "(II)Z"⟩
abbrev cX11_isOutcome : ByteArray := prog_13_method_59_code
def yX11_isOutcome : MethodName := ⟨RX11, "isOutcome", "(I)Z"⟩
abbrev cX11_outcomeAt : ByteArray := prog_13_method_60_code
def yX11_outcomeAt : MethodName := ⟨RX11, "outcomeAt", "(I)I"⟩
abbrev cX11_isNested : ByteArray := prog_13_method_61_code
def yX11_isNested : MethodName := ⟨RX11, "isNested", "()Z"⟩
abbrev cX11_manyOf : ByteArray := prog_13_method_62_code
def yX11_manyOf : MethodName := ⟨RX11, "manyOf", "(Z)I"⟩
abbrev cX11_found : ByteArray := prog_13_method_63_code
def yX11_found : MethodName := ⟨RX11, "found", "(I)I"⟩
abbrev cX11_goal : ByteArray := prog_13_method_64_code
def yX11_goal : MethodName := ⟨RX11, "goal", "(I)I"⟩
abbrev cX11_onWay : ByteArray := prog_13_method_65_code
def yX11_onWay : MethodName := ⟨RX11, "onWay", "(II)I"⟩
abbrev cX11_schedule : ByteArray := prog_13_method_66_code
def yX11_schedule : MethodName := ⟨RX11, "schedule", "(II)I"⟩
abbrev cX11_lay : ByteArray := prog_13_method_67_code
def yX11_lay : MethodName := ⟨RX11, "lay", "(III)I"⟩
abbrev cX11_outcome : ByteArray := prog_13_method_68_code
def yX11_outcome : MethodName := ⟨RX11, "outcome", "(II)I"⟩
abbrev cX11_underIn : ByteArray := prog_13_method_69_code
def yX11_underIn : MethodName := ⟨RX11, "underIn", "(I)I"⟩
abbrev cX11_under : ByteArray := prog_13_method_70_code
def yX11_under : MethodName := ⟨RX11, "under", "(I)I"⟩
abbrev cX11_round : ByteArray := prog_13_method_71_code
def yX11_round : MethodName := ⟨RX11, "round", "()I"⟩
abbrev cX11_areSo : ByteArray := prog_13_method_72_code
def yX11_areSo : MethodName := ⟨RX11, "areSo", "([II)Z"⟩
abbrev cX11_condition : ByteArray := prog_13_method_73_code
def yX11_condition : MethodName := ⟨RX11, "condition", "(III)I"⟩
abbrev cX11_holds : ByteArray := prog_13_method_74_code
def yX11_holds : MethodName := ⟨RX11, "holds", "()I"⟩
abbrev cX11_isList : ByteArray := prog_13_method_75_code
def yX11_isList : MethodName := ⟨RX11, "isList", "(I)Z"⟩
abbrev cX11_list : ByteArray := prog_13_method_76_code
def yX11_list : MethodName := ⟨RX11, "list", "(II)I"⟩
abbrev cX11_set : ByteArray := prog_13_method_77_code
def yX11_set : MethodName := ⟨RX11, "set", "(III)I"⟩
abbrev cX11_get : ByteArray := prog_13_method_78_code
def yX11_get : MethodName := ⟨RX11, "get", "(II)I"⟩
abbrev cX11_image : ByteArray := prog_13_method_79_code
def yX11_image : MethodName := ⟨RX11, "image", "()I"⟩
abbrev cX11_back : ByteArray := prog_13_method_80_code
def yX11_back : MethodName := ⟨RX11, "back", "()I"⟩
def RJx145de : String := "java/io/Serializable"
def RJx9f9b0 : String := "java/lang/CharSequence"
def RJxb160c : String := "java/lang/Comparable"
def RJ9 : String := "java/lang/Math"
abbrev cJ9_min_7cf53 : ByteArray := prog_14_method_69_code
def yJ9_min_7cf53 : MethodName := ⟨RJ9, "min", "(II)I"⟩
def RJ0 : String := "java/lang/String"
abbrev cJ0_length_8abf5 : ByteArray := prog_15_method_54_code
def yJ0_length_8abf5 : MethodName := ⟨RJ0, "length", "()I"⟩
abbrev cJ0_charAt_5068e : ByteArray := prog_15_method_56_code
def yJ0_charAt_5068e : MethodName := ⟨RJ0, "charAt", "(I)C"⟩
abbrev cJ0_coder_7d493 : ByteArray := prog_15_method_152_code
def yJ0_coder_7d493 : MethodName := ⟨RJ0, "coder", "()B"⟩
abbrev cJ0_isLatin1_aae02 : ByteArray := prog_15_method_154_code
def yJ0_isLatin1_aae02 : MethodName := ⟨RJ0, "isLatin1", "()Z"⟩
abbrev cJ0_checkIndex_df160 : ByteArray := prog_15_method_155_code
def yJ0_checkIndex_df160 : MethodName := ⟨RJ0, "checkIndex", "(II)V"⟩
def RJ1 : String := "java/lang/StringLatin1"
abbrev cJ1_charAt_3b067 : ByteArray := prog_16_method_2_code
def yJ1_charAt_3b067 : MethodName := ⟨RJ1, "charAt", "([BI)C"⟩
def RJ2 : String := "java/lang/StringUTF16"
abbrev cJ2_getChar_3b067 : ByteArray := prog_17_method_5_code
def yJ2_getChar_3b067 : MethodName := ⟨RJ2, "getChar", "([BI)C"⟩
abbrev cJ2_length_9d52b : ByteArray := prog_17_method_6_code
def yJ2_length_9d52b : MethodName := ⟨RJ2, "length", "([B)I"⟩
abbrev cJ2_charAt_3b067 : ByteArray := prog_17_method_83_code
def yJ2_charAt_3b067 : MethodName := ⟨RJ2, "charAt", "([BI)C"⟩
abbrev cJ2_checkIndex_2214a : ByteArray := prog_17_method_91_code
def yJ2_checkIndex_2214a : MethodName := ⟨RJ2, "checkIndex", "(I[B)V"⟩
def RJ10 : String := "java/lang/System"
def RJxfd54e : String := "java/lang/constant/Constable"
def RJx3cf43 : String := "java/lang/constant/ConstantDesc"
def RJ7 : String := "java/util/Arrays"
abbrev cJ7_fill_53178 : ByteArray := prog_19_method_103_code
def yJ7_fill_53178 : MethodName := ⟨RJ7, "fill", "([II)V"⟩
def RJ3 : String := "jdk/internal/util/Preconditions"
abbrev cJ3_checkIndex_8e157 : ByteArray := prog_20_method_11_code
def yJ3_checkIndex_8e157 : MethodName := ⟨RJ3, "checkIndex", "(IILjava/util/function/BiFunction;)I"⟩
def RL : String := "GateTurnsLaw"
abbrev cL_law : ByteArray := code
def yL_law : MethodName := ⟨RL, "law", "([I)Z"⟩
abbrev vwCl : List vw_C := [(RX0, TX0, 4), (RX1, TX1, 14), (RX2, TX2, 2), (RX3, TX3, 2), (RX4, TX4, 4), (RX6, TX6, 15), (RX7, TX7, 4), (RX8, TX8, 2), (RX9, TX9, 3), (RX10, TX10, 9), (RX11, TX11, 29)]
end
section
/-! THE FLAT MEMORY: every cell that the law makes stands at a number; its ints are f a k; its layout (kind, length, references) is a list. A method's walk is a judgement 'A' over locals, stack and memory; the machine's own words stand behind it. -/
abbrev Mem : Type := Nat → Nat → Int32
/-- kind (0 int[], 1 boolean[], 2 Program[], 3 int[][], 4 + c an object of the class c), length, for each place 0 (a number), 1 (null), a + 2 (the cell a) -/
abbrev Ly : Type := Nat × Nat × List Nat
/-- name, bytes, locals, answer, frames, words -/
abbrev MT : Type := MethodName × ByteArray × Nat × Option FieldType × Nat × Nat
def gw : List Cond := lw_tbl.filter goodWord
theorem mem_gw {w : Cond} (i : Nat) (h : lw_tbl[i]? = some w) (hg : goodWord w = true) : w ∈ gw := List.mem_filter.mpr ⟨List.mem_of_getElem? h, hg⟩
abbrev gt_y (M : MT) : MethodName := M.1
abbrev gt_c (M : MT) : ByteArray := M.2.1
abbrev gt_L (M : MT) : Nat := M.2.2.1
abbrev gt_r (M : MT) : Option FieldType := M.2.2.2.1
abbrev gt_fr (M : MT) : Nat := M.2.2.2.2.1
abbrev gt_wo (M : MT) : Nat := M.2.2.2.2.2
abbrev gt_R (M : MT) (mc ms : Nat) : Room := { frames := gt_fr M, cells := mc, slots := ms, locals := gt_wo M }
abbrev gt_ws (M : MT) : List Cond := Cond.code (gt_y M) (gt_c M) (gt_L M) (gt_r M) :: gw
def cz (al : Nat → Nat) : Value → Value
  | .ref a => .ref (al a)
  | .int x => .int x
  | .long x => .long x
  | .float x => .float x
  | .double x => .double x
  | .null => .null
  | .retAddr x => .retAddr x
theorem cz_cat (al : Nat → Nat) (v : Value) : (cz al v).category = v.category := by cases v <;> rfl
/-- one row becomes g -/
def ur (f : Mem) (a : Nat) (g : Nat → Int32) : Mem := fun b => if b = a then g else f b
/-- one number becomes x -/
def u2 (f : Mem) (a k : Nat) (x : Int32) : Mem := ur f a (upd (f a) k x)
theorem ur_s (f : Mem) (a : Nat) (g : Nat → Int32) : ur f a g a = g := if_pos rfl
theorem ur_n (f : Mem) {a b : Nat} (g : Nat → Int32) (h : b ≠ a) : ur f a g b = f b := if_neg h
theorem u2_s (f : Mem) (a k : Nat) (x : Int32) : u2 f a k x a = upd (f a) k x := if_pos rfl
theorem u2_n (f : Mem) {a b : Nat} (k : Nat) (x : Int32) (h : b ≠ a) : u2 f a k x b = f b := if_neg h
theorem upd_s (f : Nat → Int32) (k : Nat) (x : Int32) : upd f k x k = x := if_pos rfl
theorem upd_n (f : Nat → Int32) {k j : Nat} (x : Int32) (h : j ≠ k) : upd f k x j = f j := if_neg h
def gt_fv (al : Nat → Nat) (f : Nat → Int32) (k : Nat) : Nat → Value
  | 0 => .int (f k)
  | 1 => .null
  | n + 2 => .ref (al n)
def gt_fl (al : Nat → Nat) (f : Nat → Int32) : Nat → List Nat → List Value
  | _, [] => []
  | k, o :: t => gt_fv al f k o :: gt_fl al f (k + 1) t
def gt_ro (al : Nat → Nat) : Nat → Option Nat
  | n + 2 => some (al n)
  | _ => none
def gt_ra (al : Nat → Nat) (l : List Nat) (j : Nat) : Option Nat := gt_ro al (l.getD j 1)
def gt_we (al : Nat → Nat) (ac : Nat → ClassId) (f : Nat → Int32) (q : Ly) : va_E := match q.1 with
  | 0 => .inl (ac 0, q.2.1, .inl f)
  | 1 => .inl (ac 1, q.2.1, .inl f)
  | 2 => .inl (ac 2, q.2.1, .inr (.inr (.inr (.inr (gt_ra al q.2.2)))))
  | 3 => .inl (ac 3, q.2.1, .inr (.inr (.inr (.inr (gt_ra al q.2.2)))))
  | n + 4 => .inr (n, gt_fl al f 0 q.2.2)
def gt_wl (al : Nat → Nat) (ac : Nat → ClassId) (f : Mem) : Nat → List Ly → va_W
  | _, [] => []
  | i, q :: t => (al i, gt_we al ac (f i) q) :: gt_wl al ac f (i + 1) t
theorem gt_fl_at (al : Nat → Nat) (f : Nat → Int32) : ∀ (l : List Nat) (k0 k : Nat), (gt_fl al f k0 l)[k]? = (l[k]?).map (gt_fv al f (k0 + k))
  | [], _, _ => by simp [gt_fl]
  | o :: t, k0, 0 => by simp [gt_fl]
  | o :: t, k0, k + 1 => by
    rw [gt_fl, List.getElem?_cons_succ, List.getElem?_cons_succ, gt_fl_at al f t (k0 + 1) k]
    rw [show k0 + 1 + k = k0 + (k + 1) by omega]
theorem gt_fl_len (al : Nat → Nat) (f : Nat → Int32) : ∀ (l : List Nat) (k0 : Nat), (gt_fl al f k0 l).length = l.length
  | [], _ => rfl
  | o :: t, k0 => by simp [gt_fl, gt_fl_len al f t (k0 + 1)]
theorem gt_fv_upd (al : Nat → Nat) (f : Nat → Int32) {j k : Nat} (x : Int32) (h : k ≠ j) (o : Nat) : gt_fv al (upd f j x) k o = gt_fv al f k o := by
  match o with
  | 0 => simp [gt_fv, upd_n f x h]
  | 1 => rfl
  | n + 2 => rfl
theorem gt_fl_out (al : Nat → Nat) (f : Nat → Int32) (x : Int32) : ∀ (l : List Nat) (k0 j : Nat), j < k0 → gt_fl al (upd f j x) k0 l = gt_fl al f k0 l
  | [], _, _, _ => rfl
  | o :: t, k0, j, h => by
    rw [gt_fl, gt_fl, gt_fl_out al f x t (k0 + 1) j (by omega), gt_fv_upd al f x (by omega)]
theorem gt_fl_set (al : Nat → Nat) (f : Nat → Int32) (x : Int32) : ∀ (l : List Nat) (k0 k : Nat), l[k]? = some 0 → (gt_fl al f k0 l).set k (.int x) = gt_fl al (upd f (k0 + k) x) k0 l
  | [], _, _, h => by simp at h
  | o :: t, k0, 0, h => by
    simp at h
    subst h
    simp only [gt_fl, List.set_cons_zero, Nat.add_zero]
    rw [gt_fl_out al f x t (k0 + 1) k0 (by omega)]
    simp [gt_fv, upd_s]
  | o :: t, k0, k + 1, h => by
    rw [List.getElem?_cons_succ] at h
    simp only [gt_fl, List.set_cons_succ]
    rw [gt_fl_set al f x t (k0 + 1) k h, gt_fv_upd al f x (by omega), show k0 + 1 + k = k0 + (k + 1) by omega]
theorem gt_fl_setq (al : Nat → Nat) (f : Nat → Int32) (a : Nat) : ∀ (l : List Nat) (k0 k : Nat), (gt_fl al f k0 l).set k (.ref (al a)) = gt_fl al f k0 (l.set k (a + 2))
  | [], _, _ => by simp [gt_fl]
  | o :: t, k0, 0 => by simp [gt_fl, gt_fv]
  | o :: t, k0, k + 1 => by
    simp only [gt_fl, List.set_cons_succ]
    rw [gt_fl_setq al f a t (k0 + 1) k]
theorem gt_wl_at (al : Nat → Nat) (ac : Nat → ClassId) (f : Mem) : ∀ (l : List Ly) (i0 k : Nat), (gt_wl al ac f i0 l)[k]? = (l[k]?).map (fun q => (al (i0 + k), gt_we al ac (f (i0 + k)) q))
  | [], _, _ => by simp [gt_wl]
  | o :: t, i0, 0 => by simp [gt_wl]
  | o :: t, i0, k + 1 => by
    rw [gt_wl, List.getElem?_cons_succ, List.getElem?_cons_succ, gt_wl_at al ac f t (i0 + 1) k]
    rw [show i0 + 1 + k = i0 + (k + 1) by omega]
theorem gt_wl_len (al : Nat → Nat) (ac : Nat → ClassId) (f : Mem) : ∀ (l : List Ly) (i0 : Nat), (gt_wl al ac f i0 l).length = l.length
  | [], _ => rfl
  | o :: t, i0 => by simp [gt_wl, gt_wl_len al ac f t (i0 + 1)]
theorem gt_wl_low (al : Nat → Nat) (ac : Nat → ClassId) (f : Mem) (g : Nat → Int32) : ∀ (l : List Ly) (i0 j : Nat), j < i0 → gt_wl al ac (ur f j g) i0 l = gt_wl al ac f i0 l
  | [], _, _, _ => rfl
  | o :: t, i0, j, h => by
    rw [gt_wl, gt_wl, gt_wl_low al ac f g t (i0 + 1) j (by omega), ur_n f g (by omega)]
theorem gt_wl_high (al : Nat → Nat) (ac : Nat → ClassId) (f : Mem) (g : Nat → Int32) : ∀ (l : List Ly) (i0 j : Nat), i0 + l.length ≤ j → gt_wl al ac (ur f j g) i0 l = gt_wl al ac f i0 l
  | [], _, _, _ => rfl
  | o :: t, i0, j, h => by
    simp only [List.length_cons] at h
    rw [gt_wl, gt_wl, gt_wl_high al ac f g t (i0 + 1) j (by omega), ur_n f g (by omega)]
theorem gt_wl_set (al : Nat → Nat) (ac : Nat → ClassId) (f : Mem) (g : Nat → Int32) : ∀ (l : List Ly) (i0 k : Nat) (q : Ly), l[k]? = some q → (gt_wl al ac f i0 l).set k (al (i0 + k), gt_we al ac g q) = gt_wl al ac (ur f (i0 + k) g) i0 l
  | [], _, _, _, h => by simp at h
  | o :: t, i0, 0, q, h => by
    simp at h
    subst h
    simp only [gt_wl, List.set_cons_zero, Nat.add_zero]
    rw [gt_wl_low al ac f g t (i0 + 1) i0 (by omega), ur_s]
  | o :: t, i0, k + 1, q, h => by
    rw [List.getElem?_cons_succ] at h
    have e := gt_wl_set al ac f g t (i0 + 1) k q h
    rw [show i0 + 1 + k = i0 + (k + 1) by omega] at e
    simp only [gt_wl, List.set_cons_succ]
    rw [e, ur_n f g (by omega)]
theorem gt_wl_setq (al : Nat → Nat) (ac : Nat → ClassId) (f : Mem) (q' : Ly) : ∀ (l : List Ly) (i0 k : Nat), (gt_wl al ac f i0 l).set k (al (i0 + k), gt_we al ac (f (i0 + k)) q') = gt_wl al ac f i0 (l.set k q')
  | [], _, _ => by simp [gt_wl]
  | o :: t, i0, 0 => by simp [gt_wl]
  | o :: t, i0, k + 1 => by
    have e := gt_wl_setq al ac f q' t (i0 + 1) k
    rw [show i0 + 1 + k = i0 + (k + 1) by omega] at e
    simp only [gt_wl, List.set_cons_succ]
    rw [e]
theorem gt_wl_app (al : Nat → Nat) (ac : Nat → ClassId) (f : Mem) (q : Ly) : ∀ (l : List Ly) (i0 : Nat), gt_wl al ac f i0 (l ++ [q]) = gt_wl al ac f i0 l ++ [(al (i0 + l.length), gt_we al ac (f (i0 + l.length)) q)]
  | [], _ => by simp [gt_wl]
  | o :: t, i0 => by
    simp only [gt_wl, List.cons_append, List.length_cons]
    rw [gt_wl_app al ac f q t (i0 + 1), show i0 + 1 + t.length = i0 + (t.length + 1) by omega]
abbrev gt_wd (al : Nat → Nat) (ac : Nat → ClassId) (lay : List Ly) (f : Mem) : va_W := gt_wl al ac f 0 lay
theorem gt_wd_at {al : Nat → Nat} {ac : Nat → ClassId} {lay : List Ly} {f : Mem} {a : Nat} {q : Ly} (h : lay[a]? = some q) : (gt_wd al ac lay f)[a]? = some (al a, gt_we al ac (f a) q) := by
  rw [gt_wl_at, h, Nat.zero_add]
  rfl
theorem gt_wd_set {al : Nat → Nat} {ac : Nat → ClassId} {lay : List Ly} {f : Mem} {a : Nat} {q : Ly} (h : lay[a]? = some q) (g : Nat → Int32) : (gt_wd al ac lay f).set a (al a, gt_we al ac g q) = gt_wd al ac lay (ur f a g) := by
  have e := gt_wl_set al ac f g lay 0 a q h
  rw [Nat.zero_add] at e
  exact e
/-- the law's cells lie side by side, from al 0 on -/
def gt_al (al : Nat → Nat) : Prop := ∀ i, i < 1000 → al i = al 0 + i
abbrev gt_A (al : Nat → Nat) : Nat → Prop := fun q => al 0 ≤ q
theorem gt_D {al : Nat → Nat} (h : gt_al al) (ac : Nat → ClassId) {lay : List Ly} (hl : lay.length < 1000) (f : Mem) : va_D (gt_A al) (gt_wd al ac lay f) := by
  have key : ∀ (k : Nat) (q : Nat × va_E), (gt_wd al ac lay f)[k]? = some q → q.1 = al 0 + k := by
    intro k q hk
    have hlt : k < lay.length := by
      have := (List.getElem?_eq_some_iff.mp hk).1
      rwa [gt_wl_len] at this
    rw [gt_wl_at, Nat.zero_add] at hk
    cases hq : lay[k]? with
    | none => rw [hq] at hk; cases hk
    | some z =>
      rw [hq] at hk
      cases hk
      exact h k (by omega)
  refine ⟨fun i j p q hi hj e => ?_, fun k q hk => ?_⟩
  · have h1 := key i p hi
    have h2 := key j q hj
    omega
  · have h1 := key k q hk
    show al 0 ≤ q.1
    omega
def gt_tx (i : Nat) : String := ["enter", "leave", "wait", "notify", "all", "add", "set", "if", "jump"].getD i ""
def gt_len : List Nat := [5, 5, 4, 6, 3, 3, 3, 2, 4]
def gt_byt : List (List Int32) := [[101, 110, 116, 101, 114], [108, 101, 97, 118, 101], [119, 97, 105, 116], [110, 111, 116, 105, 102, 121], [97, 108, 108], [97, 100, 100], [115, 101, 116], [105, 102], [106, 117, 109, 112]]
end
section
/-- links between nest mates, which aren't among the good words -/
def gt_nest : List (String × Nat × MethodName) := [(RX1, 59, yX3_init), (RX10, 25, yX4_init), (RX4, 11, yX8_init), (RX4, 20, yX3_init), (RX10, 37, yX9_init), (RX10, 44, yX0_init), (RX10, 51, yX6_init), (RX6, 24, yX7_init), (RX1, 120, yX10_isCellNumber), (RX2, 26, yX10_isList), (RX1, 136, yX10_isMonitor)]
abbrev gt_tys (ac : Nat → ClassId) : List (ClassId × FieldType) := [(ac 0, .int), (ac 1, .boolean), (ac 2, .object RX3), (ac 3, .array .int)]
/-- what the tables say, at any state of the run -/
def gt_K (D : va_G) (al : Nat → Nat) (ac : Nat → ClassId) (U : State) : Prop := va_K D vwCl (gt_tys ac) U ∧ (∀ q ∈ gt_nest, va_Nw (.methodLinkNest q.1 q.2.1 q.2.2 RX10) U) ∧ (∀ i, i < 9 → vk_R RX4 (76 + 2 * i) (gt_tx i) (al (1000 + i)) U) ∧ va_AO RX3 U
/-- what lies outside the law's cells and is only read -/
def gt_E (al : Nat → Nat) (U : State) (H : Heap) : Prop := vk_S 9 gt_len gt_byt (fun i => al (1000 + i)) (fun i => al (1100 + i)) (gt_A al) U H ∧ va_Z "java/lang/String" "COMPACT_STRINGS" "Z" (.int 1) (gt_A al) U H ∧ va_Zq "jdk/internal/util/Preconditions" "SIOOBE_FORMATTER" "Ljava/util/function/BiFunction;" (gt_A al) U H
theorem gt_K.warm {D : va_G} {al : Nat → Nat} {ac : Nat → ClassId} {s U : State} (hW : s.WarmedH U.vm) (h : gt_K D al ac s) : gt_K D al ac U :=
  ⟨va_K.moved hW.alike h.1, fun q hq => va_Nw.warmM hW (h.2.1 q hq), fun i hi => vk_R.warm hW (h.2.2.1 i hi), va_AO.moved hW.alike h.2.2.2⟩
theorem gt_E.move {al : Nat → Nat} {s U : State} {H : Heap} {locs : List Loc} (hW : s.vm.Alike U.vm) (h : gt_E al s s.heap) (hS : va_S (gt_A al) s.heap H locs) : gt_E al U H :=
  ⟨vk_S.moved hW (h.1.kept hS.2.1), va_Z.moved hW (h.2.1.kept hS.2.1), va_Zq.moved hW (h.2.2.kept hS.2.1)⟩
/-- a method's start: the cells, the tables, the heap's size -/
def gt_P (D : va_G) (al : Nat → Nat) (ac : Nat → ClassId) (lay : List Ly) (f : Mem) (U : State) : Prop := va_P D vwCl (gt_wd al ac lay f) U.heap ∧ gt_K D al ac U ∧ gt_E al U U.heap ∧ U.heap.size = al lay.length
/-- its end -/
def gt_Q (D : va_G) (al : Nat → Nat) (ac : Nat → ClassId) (lay : List Ly) (post : Option Value → Mem → Prop) : Array Value → State → Outcome → State → Prop := fun _ st oc t =>
  (∃ (r : Option Value) (f : Mem), oc = .returned (r.map (cz al)) ∧ post r f ∧ va_P D vwCl (gt_wd al ac lay f) t.heap) ∧ va_F (gt_A al) st t
/-- A CONTRACT: from the arguments as and the memory f the method returns; post says of its answer and of the memory then; layout before and behind, cells and slots made -/
def Ct (M : MT) (mc ms : Nat) (lay lay' : List Ly) (as : List Value) (f : Mem) (post : Option Value → Mem → Prop) : Prop :=
  ∀ (l : Launch) (D : va_G) (al : Nat → Nat) (ac : Nat → ClassId), gt_al al → lay.length < 1000 → Met l (gt_y M) (gt_ws M) (gt_R M mc ms) (va_Pc (as.map (cz al)) (gt_P D al ac lay f)) (gt_Q D al ac lay' post) mc ms (gt_A al)
abbrev XT : Type := (Nat → Nat) → Array Value → State → Prop
abbrev ZT : Type := List Frame → Array Value → State → va_G → (Nat → Nat) → (Nat → ClassId) → State → Prop
/-- method, room, cells and slots made so far, what else is known, the goal, the layout -/
abbrev CT : Type := MT × Room × Nat × Nat × XT × ZT × List Ly
def gt_nX : XT := fun _ _ _ => True
def gt_Z (mc ms : Nat) (lay : List Ly) (post : Option Value → Mem → Prop) : ZT := fun below args s D al ac => MQ below (gt_Q D al ac lay post) args s mc ms (gt_A al)
/-- the machine stands in the method M -/
def gt_X (M : MT) (p : Program) (s : State) (m : MethodId) (args : Array Value) (meth : Method) (cc : Code) : Prop :=
  p.tables.exec = Jvm.exec ∧ cc.code = gt_c M ∧ cc.maxLocals = gt_L M ∧ meth.sig.returnType = gt_r M ∧ meth.locks = false ∧ s.vm.findClass (gt_y M).cls = some m.cls ∧ (∀ w ∈ gw, w.before args s = true) ∧ ((gt_y M).name = "<init>" → meth.name = "<init>")
def gt_S (c : CT) (D : va_G) (al : Nat → Nat) (ac : Nat → ClassId) (args : Array Value) (s : State) : Prop :=
  gt_al al ∧ c.2.2.2.2.2.2.length < 1000 ∧ gt_K D al ac s ∧ gt_E al s s.heap ∧ c.2.2.2.2.1 al args s ∧ s.heap.size + c.2.2.1 = al c.2.2.2.2.2.2.length ∧ al 0 ≤ s.heap.size
def gt_lv (al : Nat → Nat) (lv : List (Nat × Value)) : List (Nat × Value) := lv.map fun q => (q.1, cz al q.2)
/-- THE JUDGEMENT: from here the machine comes to the goal -/
def A (c : CT) (pc : Nat) (lv : List (Nat × Value)) (st : List Value) (f : Mem) : Prop :=
  ∀ (p : Program) (l : Launch) (e : Env) (s : State) (m : MethodId) (args : Array Value) (below : List Frame) (meth : Method) (cc : Code) (H : Heap) (locs : List Loc) (ls : Array Slot) (D : va_G) (al : Nat → Nat) (ac : Nat → ClassId),
    gt_X c.1 p s m args meth cc → gt_S c D al ac args s → va_P D vwCl (gt_wd al ac c.2.2.2.2.2.2 f) H → va_S (gt_A al) s.heap H locs → lv_has ls (gt_L c.1) (gt_lv al lv) →
    W p l e c.2.1 s m args below meth cc H locs c.2.2.1 c.2.2.2.1 (c.2.2.2.2.2.1 below args s D al ac) (F0 m pc ls (st.map (cz al)))
abbrev cM (M : MT) (mc ms : Nat) (lay lay' : List Ly) (post : Option Value → Mem → Prop) : CT := (M, gt_R M mc ms, 0, 0, gt_nX, gt_Z mc ms lay' post, lay)
theorem gt_lv_args (al : Nat → Nat) : ∀ (as : List Value) (i : Nat), lv_args i (as.map (cz al)) = gt_lv al (lv_args i as)
  | [], _ => rfl
  | v :: vs, i => by
    show (i, cz al v) :: lv_args _ (vs.map (cz al)) = (i, cz al v) :: gt_lv al (lv_args _ vs)
    rw [cz_cat, gt_lv_args al vs]
theorem gt_sl_len (al : Nat → Nat) : ∀ (as : List Value), (lg_sl (as.map (cz al))).length = (lg_sl as).length
  | [] => rfl
  | v :: vs => by
    have h := gt_sl_len al vs
    unfold lg_sl at h ⊢
    rw [List.map_cons, List.flatMap_cons, List.flatMap_cons, List.length_append, List.length_append, h, cz_cat]
    congr 1
    split <;> rfl
/-- a contract out of a walk from the entry -/
theorem Ct.of {M : MT} {mc ms : Nat} {lay lay' : List Ly} {as : List Value} {f : Mem} {post : Option Value → Mem → Prop} {lv : List (Nat × Value)} (hy : plainName (gt_y M).cls = true) (hn : (lg_sl as).length ≤ gt_L M) (hlv : lv_args 0 as = lv)
    (h : A (cM M mc ms lay lay' post) 0 lv [] f) : Ct M mc ms lay lay' as f post := by
  intro l D al ac hal hlen
  refine Met.ofW (cc := gt_c M) (maxL := gt_L M) (ret := gt_r M) hy rfl ?_
  intro p e s m args below meth c s₁ B hml hv
  obtain ⟨rfl, hP, hK, hE, hz⟩ := hv
  have hts := atoms_spec (ws := gt_ws M) B.pre
  have hown : s.vm.findClass (gt_y M).cls = some m.cls := findClass_of_methodNamed B.named
  have hl := lv_entry (as.map (cz al)) (n := gt_L M) (by rw [gt_sl_len]; exact hn)
  rw [lg_entry_eq]
  generalize (lg_sl (as.map (cz al)) ++ List.replicate (gt_L M - (lg_sl (as.map (cz al))).length) Slot.unset).toArray = ls at hl ⊢
  rw [gt_lv_args, hlv] at hl
  exact h p l e s m _ below meth c s.heap [] ls D al ac ⟨B.exec, B.bytes, hml, B.returns, B.notSynchronized, hown, fun w hw => hts w (List.mem_cons_of_mem _ hw), fun hn => ((name_of_methodNamed B.named B.method).1).trans hn⟩
    ⟨hal, hlen, hK, hE, trivial, hz, by rw [hz, hal lay.length hlen]; exact Nat.le_add_right _ _⟩ hP va_S.rf hl
/-- a contract's goal may be wider -/
theorem Ct.mono {M : MT} {mc ms : Nat} {lay lay' : List Ly} {as : List Value} {f : Mem} {post post' : Option Value → Mem → Prop} (h : Ct M mc ms lay lay' as f post) (hp : ∀ r g, post r g → post' r g) : Ct M mc ms lay lay' as f post' := by
  intro l D al ac hal hlen p e ha hc hk s m args below hf hap hP hT
  obtain ⟨k, o, h1, h2, h3, ⟨⟨⟨r, g, e1, e2, e3⟩, hF⟩, hL⟩⟩ := h l D al ac hal hlen p e ha hc hk s m args below hf hap hP hT
  exact ⟨k, o, h1, h2, h3, ⟨⟨r, g, e1, hp r g e2, e3⟩, hF⟩, hL⟩
end
section
/-! the rows of the judgement: an instruction each -/
theorem A_iconst {c : CT} {pc : Nat} {lv : List (Nat × Value)} {st : List Value} {f : Mem} {n : Int} {v : Int32} (hd : decode (gt_c c.1) pc = .ok (.iconst n, 1)) (hv : Int32.ofInt n = v) (k : A c (pc + 1) lv (.int v :: st) f) : A c pc lv (st) f := fun p l e s m args below meth cc H locs ls D al ac hX hS hP hV hl => lv_iconst hX.1 hX.2.1 hd hv (k p l e s m args below meth cc H locs ls D al ac hX hS hP hV hl)
theorem A_bipush {c : CT} {pc : Nat} {lv : List (Nat × Value)} {st : List Value} {f : Mem} {n : Int} {v : Int32} (hd : decode (gt_c c.1) pc = .ok (.bipush n, 2)) (hv : (Int8.ofInt n).toInt32 = v) (k : A c (pc + 2) lv (.int v :: st) f) : A c pc lv (st) f := fun p l e s m args below meth cc H locs ls D al ac hX hS hP hV hl => lv_bipush hX.1 hX.2.1 hd hv (k p l e s m args below meth cc H locs ls D al ac hX hS hP hV hl)
theorem A_sipush {c : CT} {pc : Nat} {lv : List (Nat × Value)} {st : List Value} {f : Mem} {n : Int} {v : Int32} (hd : decode (gt_c c.1) pc = .ok (.sipush n, 3)) (hv : (Int16.ofInt n).toInt32 = v) (k : A c (pc + 3) lv (.int v :: st) f) : A c pc lv (st) f := fun p l e s m args below meth cc H locs ls D al ac hX hS hP hV hl => lv_sipush hX.1 hX.2.1 hd hv (k p l e s m args below meth cc H locs ls D al ac hX hS hP hV hl)
theorem A_lconst {c : CT} {pc : Nat} {lv : List (Nat × Value)} {st : List Value} {f : Mem} {n : Fin 2} {v : Int64} (hd : decode (gt_c c.1) pc = .ok (.lconst n, 1)) (hv : Int64.ofNat (n : Nat) = v) (k : A c (pc + 1) lv (.long v :: st) f) : A c pc lv (st) f := fun p l e s m args below meth cc H locs ls D al ac hX hS hP hV hl => lv_lconst hX.1 hX.2.1 hd hv (k p l e s m args below meth cc H locs ls D al ac hX hS hP hV hl)
theorem A_iadd {c : CT} {pc : Nat} {lv : List (Nat × Value)} {st : List Value} {f : Mem} {x y : Int32} (hd : decode (gt_c c.1) pc = .ok (.iadd, 1)) (k : A c (pc + 1) lv (.int (x + y) :: st) f) : A c pc lv (.int y :: .int x :: st) f := fun p l e s m args below meth cc H locs ls D al ac hX hS hP hV hl => lv_iadd hX.1 hX.2.1 hd (k p l e s m args below meth cc H locs ls D al ac hX hS hP hV hl)
theorem A_isub {c : CT} {pc : Nat} {lv : List (Nat × Value)} {st : List Value} {f : Mem} {x y : Int32} (hd : decode (gt_c c.1) pc = .ok (.isub, 1)) (k : A c (pc + 1) lv (.int (x - y) :: st) f) : A c pc lv (.int y :: .int x :: st) f := fun p l e s m args below meth cc H locs ls D al ac hX hS hP hV hl => lv_isub hX.1 hX.2.1 hd (k p l e s m args below meth cc H locs ls D al ac hX hS hP hV hl)
theorem A_imul {c : CT} {pc : Nat} {lv : List (Nat × Value)} {st : List Value} {f : Mem} {x y : Int32} (hd : decode (gt_c c.1) pc = .ok (.imul, 1)) (k : A c (pc + 1) lv (.int (x * y) :: st) f) : A c pc lv (.int y :: .int x :: st) f := fun p l e s m args below meth cc H locs ls D al ac hX hS hP hV hl => lv_imul hX.1 hX.2.1 hd (k p l e s m args below meth cc H locs ls D al ac hX hS hP hV hl)
theorem A_iand {c : CT} {pc : Nat} {lv : List (Nat × Value)} {st : List Value} {f : Mem} {x y : Int32} (hd : decode (gt_c c.1) pc = .ok (.iand, 1)) (k : A c (pc + 1) lv (.int (x &&& y) :: st) f) : A c pc lv (.int y :: .int x :: st) f := fun p l e s m args below meth cc H locs ls D al ac hX hS hP hV hl => lv_iand hX.1 hX.2.1 hd (k p l e s m args below meth cc H locs ls D al ac hX hS hP hV hl)
theorem A_ior {c : CT} {pc : Nat} {lv : List (Nat × Value)} {st : List Value} {f : Mem} {x y : Int32} (hd : decode (gt_c c.1) pc = .ok (.ior, 1)) (k : A c (pc + 1) lv (.int (x ||| y) :: st) f) : A c pc lv (.int y :: .int x :: st) f := fun p l e s m args below meth cc H locs ls D al ac hX hS hP hV hl => lv_ior hX.1 hX.2.1 hd (k p l e s m args below meth cc H locs ls D al ac hX hS hP hV hl)
theorem A_ixor {c : CT} {pc : Nat} {lv : List (Nat × Value)} {st : List Value} {f : Mem} {x y : Int32} (hd : decode (gt_c c.1) pc = .ok (.ixor, 1)) (k : A c (pc + 1) lv (.int (x ^^^ y) :: st) f) : A c pc lv (.int y :: .int x :: st) f := fun p l e s m args below meth cc H locs ls D al ac hX hS hP hV hl => lv_ixor hX.1 hX.2.1 hd (k p l e s m args below meth cc H locs ls D al ac hX hS hP hV hl)
theorem A_ishl {c : CT} {pc : Nat} {lv : List (Nat × Value)} {st : List Value} {f : Mem} {x y : Int32} (hd : decode (gt_c c.1) pc = .ok (.ishl, 1)) (k : A c (pc + 1) lv (.int (x <<< (y &&& 31)) :: st) f) : A c pc lv (.int y :: .int x :: st) f := fun p l e s m args below meth cc H locs ls D al ac hX hS hP hV hl => lv_ishl hX.1 hX.2.1 hd (k p l e s m args below meth cc H locs ls D al ac hX hS hP hV hl)
theorem A_ishr {c : CT} {pc : Nat} {lv : List (Nat × Value)} {st : List Value} {f : Mem} {x y : Int32} (hd : decode (gt_c c.1) pc = .ok (.ishr, 1)) (k : A c (pc + 1) lv (.int (x >>> (y &&& 31)) :: st) f) : A c pc lv (.int y :: .int x :: st) f := fun p l e s m args below meth cc H locs ls D al ac hX hS hP hV hl => lv_ishr hX.1 hX.2.1 hd (k p l e s m args below meth cc H locs ls D al ac hX hS hP hV hl)
theorem A_irem {c : CT} {pc : Nat} {lv : List (Nat × Value)} {st : List Value} {f : Mem} {x y : Int32} (hd : decode (gt_c c.1) pc = .ok (.irem, 1)) (hne : ¬ y = 0) (k : A c (pc + 1) lv (.int (x - x / y * y) :: st) f) : A c pc lv (.int y :: .int x :: st) f := fun p l e s m args below meth cc H locs ls D al ac hX hS hP hV hl => lv_irem hX.1 hX.2.1 hd hne (k p l e s m args below meth cc H locs ls D al ac hX hS hP hV hl)
theorem A_ineg {c : CT} {pc : Nat} {lv : List (Nat × Value)} {st : List Value} {f : Mem} {x : Int32} (hd : decode (gt_c c.1) pc = .ok (.ineg, 1)) (k : A c (pc + 1) lv (.int (-x) :: st) f) : A c pc lv (.int x :: st) f := fun p l e s m args below meth cc H locs ls D al ac hX hS hP hV hl => lv_ineg hX.1 hX.2.1 hd (k p l e s m args below meth cc H locs ls D al ac hX hS hP hV hl)
theorem A_iushr {c : CT} {pc : Nat} {lv : List (Nat × Value)} {st : List Value} {f : Mem} {x y : Int32} (hd : decode (gt_c c.1) pc = .ok (.iushr, 1)) (k : A c (pc + 1) lv (.int ((x.toUInt32 >>> (y.toUInt32 &&& Int32.toUInt32 31)).toInt32) :: st) f) : A c pc lv (.int y :: .int x :: st) f := fun p l e s m args below meth cc H locs ls D al ac hX hS hP hV hl => lv_iushr hX.1 hX.2.1 hd rfl (k p l e s m args below meth cc H locs ls D al ac hX hS hP hV hl)
theorem A_ladd {c : CT} {pc : Nat} {lv : List (Nat × Value)} {st : List Value} {f : Mem} {x y : Int64} (hd : decode (gt_c c.1) pc = .ok (.ladd, 1)) (k : A c (pc + 1) lv (.long (x + y) :: st) f) : A c pc lv (.long y :: .long x :: st) f := fun p l e s m args below meth cc H locs ls D al ac hX hS hP hV hl => lv_ladd hX.1 hX.2.1 hd (k p l e s m args below meth cc H locs ls D al ac hX hS hP hV hl)
theorem A_lcmp {c : CT} {pc : Nat} {lv : List (Nat × Value)} {st : List Value} {f : Mem} {x y : Int64} (hd : decode (gt_c c.1) pc = .ok (.lcmp, 1)) (k : A c (pc + 1) lv (.int (lg_cmp x y) :: st) f) : A c pc lv (.long y :: .long x :: st) f := fun p l e s m args below meth cc H locs ls D al ac hX hS hP hV hl => W.lcmp hX.1 hX.2.1 hd (k p l e s m args below meth cc H locs ls D al ac hX hS hP hV hl)
theorem A_i2l {c : CT} {pc : Nat} {lv : List (Nat × Value)} {st : List Value} {f : Mem} {x : Int32} (hd : decode (gt_c c.1) pc = .ok (.i2l, 1)) (k : A c (pc + 1) lv (.long x.toInt64 :: st) f) : A c pc lv (.int x :: st) f := fun p l e s m args below meth cc H locs ls D al ac hX hS hP hV hl => lv_i2l hX.1 hX.2.1 hd rfl (k p l e s m args below meth cc H locs ls D al ac hX hS hP hV hl)
theorem A_i2c {c : CT} {pc : Nat} {lv : List (Nat × Value)} {st : List Value} {f : Mem} {x : Int32} (hd : decode (gt_c c.1) pc = .ok (.i2c, 1)) (k : A c (pc + 1) lv (.int (x.toUInt32 % 65536).toInt32 :: st) f) : A c pc lv (.int x :: st) f := fun p l e s m args below meth cc H locs ls D al ac hX hS hP hV hl => lv_i2c hX.1 hX.2.1 hd rfl (k p l e s m args below meth cc H locs ls D al ac hX hS hP hV hl)
theorem A_dup {c : CT} {pc : Nat} {lv : List (Nat × Value)} {st : List Value} {f : Mem} {v : Value} (hd : decode (gt_c c.1) pc = .ok (.dup, 1)) (hv : v.category = 1) (k : A c (pc + 1) lv (v :: v :: st) f) : A c pc lv (v :: st) f := fun p l e s m args below meth cc H locs ls D al ac hX hS hP hV hl => lv_dup hX.1 hX.2.1 hd (by rw [cz_cat]; exact hv) (k p l e s m args below meth cc H locs ls D al ac hX hS hP hV hl)
theorem A_pop {c : CT} {pc : Nat} {lv : List (Nat × Value)} {st : List Value} {f : Mem} {v : Value} (hd : decode (gt_c c.1) pc = .ok (.pop, 1)) (hv : v.category = 1) (k : A c (pc + 1) lv (st) f) : A c pc lv (v :: st) f := fun p l e s m args below meth cc H locs ls D al ac hX hS hP hV hl => lv_pop hX.1 hX.2.1 hd (by rw [cz_cat]; exact hv) (k p l e s m args below meth cc H locs ls D al ac hX hS hP hV hl)
theorem A_dup2 {c : CT} {pc : Nat} {lv : List (Nat × Value)} {st : List Value} {f : Mem} {v w : Value} (hd : decode (gt_c c.1) pc = .ok (.dup2, 1)) (hv : v.category = 1) (hw : w.category = 1) (k : A c (pc + 1) lv (v :: w :: v :: w :: st) f) : A c pc lv (v :: w :: st) f := fun p l e s m args below meth cc H locs ls D al ac hX hS hP hV hl => lv_dup2_11 hX.1 hX.2.1 hd (by rw [cz_cat]; exact hv) (by rw [cz_cat]; exact hw) (k p l e s m args below meth cc H locs ls D al ac hX hS hP hV hl)
theorem gt_lv_at {al : Nat → Nat} {lv : List (Nat × Value)} {j i : Nat} {v : Value} (h : lv[j]? = some (i, v)) : (gt_lv al lv)[j]? = some (i, cz al v) := by unfold gt_lv; rw [List.getElem?_map, h]; rfl
theorem A_iload_n {c : CT} {pc : Nat} {lv : List (Nat × Value)} {st : List Value} {f : Mem} {n : Fin 4} {i : Nat} {x : Int32} (hd : decode (gt_c c.1) pc = .ok (.iload_n n, 1)) (hi : (n : Nat) = i) (j : Nat) (hj : lv[j]? = some (i, .int x)) (k : A c (pc + 1) lv (.int x :: st) f) : A c pc lv st f := fun p l e s m args below meth cc H locs ls D al ac hX hS hP hV hl => lv_iload_n hX.1 hX.2.1 hd hi (lv_at hl j (gt_lv_at hj)) (k p l e s m args below meth cc H locs ls D al ac hX hS hP hV hl)
theorem A_iload {c : CT} {pc : Nat} {lv : List (Nat × Value)} {st : List Value} {f : Mem} {i : Nat} {x : Int32} (hd : decode (gt_c c.1) pc = .ok (.iload i, 2)) (j : Nat) (hj : lv[j]? = some (i, .int x)) (k : A c (pc + 2) lv (.int x :: st) f) : A c pc lv st f := fun p l e s m args below meth cc H locs ls D al ac hX hS hP hV hl => lv_iload hX.1 hX.2.1 hd (lv_at hl j (gt_lv_at hj)) (k p l e s m args below meth cc H locs ls D al ac hX hS hP hV hl)
theorem A_lload_n {c : CT} {pc : Nat} {lv : List (Nat × Value)} {st : List Value} {f : Mem} {n : Fin 4} {i : Nat} {x : Int64} (hd : decode (gt_c c.1) pc = .ok (.lload_n n, 1)) (hi : (n : Nat) = i) (j : Nat) (hj : lv[j]? = some (i, .long x)) (k : A c (pc + 1) lv (.long x :: st) f) : A c pc lv st f := fun p l e s m args below meth cc H locs ls D al ac hX hS hP hV hl => lv_lload_n hX.1 hX.2.1 hd hi (lv_at hl j (gt_lv_at hj)) (k p l e s m args below meth cc H locs ls D al ac hX hS hP hV hl)
theorem A_lload {c : CT} {pc : Nat} {lv : List (Nat × Value)} {st : List Value} {f : Mem} {i : Nat} {x : Int64} (hd : decode (gt_c c.1) pc = .ok (.lload i, 2)) (j : Nat) (hj : lv[j]? = some (i, .long x)) (k : A c (pc + 2) lv (.long x :: st) f) : A c pc lv st f := fun p l e s m args below meth cc H locs ls D al ac hX hS hP hV hl => lv_lload hX.1 hX.2.1 hd (lv_at hl j (gt_lv_at hj)) (k p l e s m args below meth cc H locs ls D al ac hX hS hP hV hl)
theorem A_aload_n {c : CT} {pc : Nat} {lv : List (Nat × Value)} {st : List Value} {f : Mem} {n : Fin 4} {i : Nat} {x : Nat} (hd : decode (gt_c c.1) pc = .ok (.aload_n n, 1)) (hi : (n : Nat) = i) (j : Nat) (hj : lv[j]? = some (i, .ref x)) (k : A c (pc + 1) lv (.ref x :: st) f) : A c pc lv st f := fun p l e s m args below meth cc H locs ls D al ac hX hS hP hV hl => lv_aload_n hX.1 hX.2.1 hd hi (lv_at hl j (gt_lv_at hj)) (k p l e s m args below meth cc H locs ls D al ac hX hS hP hV hl)
theorem A_aload {c : CT} {pc : Nat} {lv : List (Nat × Value)} {st : List Value} {f : Mem} {i : Nat} {x : Nat} (hd : decode (gt_c c.1) pc = .ok (.aload i, 2)) (j : Nat) (hj : lv[j]? = some (i, .ref x)) (k : A c (pc + 2) lv (.ref x :: st) f) : A c pc lv st f := fun p l e s m args below meth cc H locs ls D al ac hX hS hP hV hl => lv_aload hX.1 hX.2.1 hd (lv_at hl j (gt_lv_at hj)) (k p l e s m args below meth cc H locs ls D al ac hX hS hP hV hl)
theorem A_aload_nN {c : CT} {pc : Nat} {lv : List (Nat × Value)} {st : List Value} {f : Mem} {n : Fin 4} {i : Nat} (hd : decode (gt_c c.1) pc = .ok (.aload_n n, 1)) (hi : (n : Nat) = i) (j : Nat) (hj : lv[j]? = some (i, .null)) (k : A c (pc + 1) lv (.null :: st) f) : A c pc lv st f := fun p l e s m args below meth cc H locs ls D al ac hX hS hP hV hl => lv_aload_nN hX.1 hX.2.1 hd hi (lv_at hl j (gt_lv_at hj)) (k p l e s m args below meth cc H locs ls D al ac hX hS hP hV hl)
/-- a local's value set -/
def gt_ls (i : Nat) (v : Value) (lv : List (Nat × Value)) : List (Nat × Value) := (i, v) :: lv.filter (fun q => !(q.1 == i) && !(q.1 + 1 == i && q.2.category == 2))
theorem gt_lv_ls (al : Nat → Nat) (i : Nat) (v : Value) (lv : List (Nat × Value)) : (i, cz al v) :: (gt_lv al lv).filter (fun q => !(q.1 == i) && !(q.1 + 1 == i && q.2.category == 2)) = gt_lv al (gt_ls i v lv) := by
  unfold gt_ls gt_lv
  rw [List.map_cons, List.filter_map]
  congr 2
  refine List.filter_congr fun q _ => ?_
  simp only [Function.comp]
  rw [cz_cat]
theorem A_istore_n {c : CT} {pc : Nat} {lv : List (Nat × Value)} {st : List Value} {f : Mem} {n : Fin 4} {i : Nat} {x : Int32} {lv' : List (Nat × Value)} (hd : decode (gt_c c.1) pc = .ok (.istore_n n, 1)) (hi : (n : Nat) = i) (hn : i < gt_L c.1) (hlv : gt_ls i (.int x) lv = lv') (k : A c (pc + 1) lv' st f) : A c pc lv (.int x :: st) f := fun p l e s m args below meth cc H locs ls D al ac hX hS hP hV hl => lv_istore_n hX.1 hX.2.1 hd hi hl hn ((gt_lv_ls al i (.int x) lv).trans (by rw [hlv])) (fun ls' hl' => k p l e s m args below meth cc H locs ls' D al ac hX hS hP hV hl')
theorem A_istore {c : CT} {pc : Nat} {lv : List (Nat × Value)} {st : List Value} {f : Mem} {i : Nat} {x : Int32} {lv' : List (Nat × Value)} (hd : decode (gt_c c.1) pc = .ok (.istore i, 2)) (hn : i < gt_L c.1) (hlv : gt_ls i (.int x) lv = lv') (k : A c (pc + 2) lv' st f) : A c pc lv (.int x :: st) f := fun p l e s m args below meth cc H locs ls D al ac hX hS hP hV hl => lv_istore hX.1 hX.2.1 hd hl hn ((gt_lv_ls al i (.int x) lv).trans (by rw [hlv])) (fun ls' hl' => k p l e s m args below meth cc H locs ls' D al ac hX hS hP hV hl')
theorem A_astore_n {c : CT} {pc : Nat} {lv : List (Nat × Value)} {st : List Value} {f : Mem} {n : Fin 4} {i : Nat} {x : Nat} {lv' : List (Nat × Value)} (hd : decode (gt_c c.1) pc = .ok (.astore_n n, 1)) (hi : (n : Nat) = i) (hn : i < gt_L c.1) (hlv : gt_ls i (.ref x) lv = lv') (k : A c (pc + 1) lv' st f) : A c pc lv (.ref x :: st) f := fun p l e s m args below meth cc H locs ls D al ac hX hS hP hV hl => lv_astore_n hX.1 hX.2.1 hd hi hl hn ((gt_lv_ls al i (.ref x) lv).trans (by rw [hlv])) (fun ls' hl' => k p l e s m args below meth cc H locs ls' D al ac hX hS hP hV hl')
theorem A_astore {c : CT} {pc : Nat} {lv : List (Nat × Value)} {st : List Value} {f : Mem} {i : Nat} {x : Nat} {lv' : List (Nat × Value)} (hd : decode (gt_c c.1) pc = .ok (.astore i, 2)) (hn : i < gt_L c.1) (hlv : gt_ls i (.ref x) lv = lv') (k : A c (pc + 2) lv' st f) : A c pc lv (.ref x :: st) f := fun p l e s m args below meth cc H locs ls D al ac hX hS hP hV hl => lv_astore hX.1 hX.2.1 hd hl hn ((gt_lv_ls al i (.ref x) lv).trans (by rw [hlv])) (fun ls' hl' => k p l e s m args below meth cc H locs ls' D al ac hX hS hP hV hl')
theorem A_iinc {c : CT} {pc : Nat} {lv : List (Nat × Value)} {st : List Value} {f : Mem} {i : Nat} {n : Int} {x v : Int32} {lv' : List (Nat × Value)} (hd : decode (gt_c c.1) pc = .ok (.iinc i n, 3)) (j : Nat) (hj : lv[j]? = some (i, .int x)) (hv : x + Int32.ofInt n = v) (hn : i < gt_L c.1) (hlv : gt_ls i (.int v) lv = lv') (k : A c (pc + 3) lv' st f) : A c pc lv st f := fun p l e s m args below meth cc H locs ls D al ac hX hS hP hV hl => lv_iinc (k := j) (v := v) hX.1 hX.2.1 hd hl (gt_lv_at hj) hv hn ((gt_lv_ls al i (.int v) lv).trans (by rw [hlv])) (fun ls' hl' => k p l e s m args below meth cc H locs ls' D al ac hX hS hP hV hl')
theorem A_if_eq {c : CT} {pc : Nat} {lv : List (Nat × Value)} {st : List Value} {f : Mem} {x : Int32} {off : Int} {tgt : Nat} (hd : decode (gt_c c.1) pc = .ok (.ifCond .eq off, 3)) (ht : (pc : Int) + off = (tgt : Int)) (kt : x = 0 → A c tgt lv st f) (kf : ¬ x = 0 → A c (pc + 3) lv st f) : A c pc lv (.int x :: st) f := fun p l e s m args below meth cc H locs ls D al ac hX hS hP hV hl => lv_if_eq hX.1 hX.2.1 hd ht (fun h => kt h p l e s m args below meth cc H locs ls D al ac hX hS hP hV hl) (fun h => kf h p l e s m args below meth cc H locs ls D al ac hX hS hP hV hl)
theorem A_icmp_eq {c : CT} {pc : Nat} {lv : List (Nat × Value)} {st : List Value} {f : Mem} {x y : Int32} {off : Int} {tgt : Nat} (hd : decode (gt_c c.1) pc = .ok (.if_icmp .eq off, 3)) (ht : (pc : Int) + off = (tgt : Int)) (kt : x = y → A c tgt lv st f) (kf : ¬ x = y → A c (pc + 3) lv st f) : A c pc lv (.int y :: .int x :: st) f := fun p l e s m args below meth cc H locs ls D al ac hX hS hP hV hl => lv_icmp_eq hX.1 hX.2.1 hd ht (fun h => kt h p l e s m args below meth cc H locs ls D al ac hX hS hP hV hl) (fun h => kf h p l e s m args below meth cc H locs ls D al ac hX hS hP hV hl)
theorem A_if_ne {c : CT} {pc : Nat} {lv : List (Nat × Value)} {st : List Value} {f : Mem} {x : Int32} {off : Int} {tgt : Nat} (hd : decode (gt_c c.1) pc = .ok (.ifCond .ne off, 3)) (ht : (pc : Int) + off = (tgt : Int)) (kt : ¬ x = 0 → A c tgt lv st f) (kf : x = 0 → A c (pc + 3) lv st f) : A c pc lv (.int x :: st) f := fun p l e s m args below meth cc H locs ls D al ac hX hS hP hV hl => lv_if_ne hX.1 hX.2.1 hd ht (fun h => kt h p l e s m args below meth cc H locs ls D al ac hX hS hP hV hl) (fun h => kf h p l e s m args below meth cc H locs ls D al ac hX hS hP hV hl)
theorem A_icmp_ne {c : CT} {pc : Nat} {lv : List (Nat × Value)} {st : List Value} {f : Mem} {x y : Int32} {off : Int} {tgt : Nat} (hd : decode (gt_c c.1) pc = .ok (.if_icmp .ne off, 3)) (ht : (pc : Int) + off = (tgt : Int)) (kt : ¬ x = y → A c tgt lv st f) (kf : x = y → A c (pc + 3) lv st f) : A c pc lv (.int y :: .int x :: st) f := fun p l e s m args below meth cc H locs ls D al ac hX hS hP hV hl => lv_icmp_ne hX.1 hX.2.1 hd ht (fun h => kt h p l e s m args below meth cc H locs ls D al ac hX hS hP hV hl) (fun h => kf h p l e s m args below meth cc H locs ls D al ac hX hS hP hV hl)
theorem A_if_lt {c : CT} {pc : Nat} {lv : List (Nat × Value)} {st : List Value} {f : Mem} {x : Int32} {off : Int} {tgt : Nat} (hd : decode (gt_c c.1) pc = .ok (.ifCond .lt off, 3)) (ht : (pc : Int) + off = (tgt : Int)) (kt : x < 0 → A c tgt lv st f) (kf : ¬ x < 0 → A c (pc + 3) lv st f) : A c pc lv (.int x :: st) f := fun p l e s m args below meth cc H locs ls D al ac hX hS hP hV hl => lv_if_lt hX.1 hX.2.1 hd ht (fun h => kt h p l e s m args below meth cc H locs ls D al ac hX hS hP hV hl) (fun h => kf h p l e s m args below meth cc H locs ls D al ac hX hS hP hV hl)
theorem A_icmp_lt {c : CT} {pc : Nat} {lv : List (Nat × Value)} {st : List Value} {f : Mem} {x y : Int32} {off : Int} {tgt : Nat} (hd : decode (gt_c c.1) pc = .ok (.if_icmp .lt off, 3)) (ht : (pc : Int) + off = (tgt : Int)) (kt : x < y → A c tgt lv st f) (kf : ¬ x < y → A c (pc + 3) lv st f) : A c pc lv (.int y :: .int x :: st) f := fun p l e s m args below meth cc H locs ls D al ac hX hS hP hV hl => lv_icmp_lt hX.1 hX.2.1 hd ht (fun h => kt h p l e s m args below meth cc H locs ls D al ac hX hS hP hV hl) (fun h => kf h p l e s m args below meth cc H locs ls D al ac hX hS hP hV hl)
theorem A_if_ge {c : CT} {pc : Nat} {lv : List (Nat × Value)} {st : List Value} {f : Mem} {x : Int32} {off : Int} {tgt : Nat} (hd : decode (gt_c c.1) pc = .ok (.ifCond .ge off, 3)) (ht : (pc : Int) + off = (tgt : Int)) (kt : 0 ≤ x → A c tgt lv st f) (kf : ¬ 0 ≤ x → A c (pc + 3) lv st f) : A c pc lv (.int x :: st) f := fun p l e s m args below meth cc H locs ls D al ac hX hS hP hV hl => lv_if_ge hX.1 hX.2.1 hd ht (fun h => kt h p l e s m args below meth cc H locs ls D al ac hX hS hP hV hl) (fun h => kf h p l e s m args below meth cc H locs ls D al ac hX hS hP hV hl)
theorem A_icmp_ge {c : CT} {pc : Nat} {lv : List (Nat × Value)} {st : List Value} {f : Mem} {x y : Int32} {off : Int} {tgt : Nat} (hd : decode (gt_c c.1) pc = .ok (.if_icmp .ge off, 3)) (ht : (pc : Int) + off = (tgt : Int)) (kt : y ≤ x → A c tgt lv st f) (kf : ¬ y ≤ x → A c (pc + 3) lv st f) : A c pc lv (.int y :: .int x :: st) f := fun p l e s m args below meth cc H locs ls D al ac hX hS hP hV hl => lv_icmp_ge hX.1 hX.2.1 hd ht (fun h => kt h p l e s m args below meth cc H locs ls D al ac hX hS hP hV hl) (fun h => kf h p l e s m args below meth cc H locs ls D al ac hX hS hP hV hl)
theorem A_if_gt {c : CT} {pc : Nat} {lv : List (Nat × Value)} {st : List Value} {f : Mem} {x : Int32} {off : Int} {tgt : Nat} (hd : decode (gt_c c.1) pc = .ok (.ifCond .gt off, 3)) (ht : (pc : Int) + off = (tgt : Int)) (kt : 0 < x → A c tgt lv st f) (kf : ¬ 0 < x → A c (pc + 3) lv st f) : A c pc lv (.int x :: st) f := fun p l e s m args below meth cc H locs ls D al ac hX hS hP hV hl => lv_if_gt hX.1 hX.2.1 hd ht (fun h => kt h p l e s m args below meth cc H locs ls D al ac hX hS hP hV hl) (fun h => kf h p l e s m args below meth cc H locs ls D al ac hX hS hP hV hl)
theorem A_icmp_gt {c : CT} {pc : Nat} {lv : List (Nat × Value)} {st : List Value} {f : Mem} {x y : Int32} {off : Int} {tgt : Nat} (hd : decode (gt_c c.1) pc = .ok (.if_icmp .gt off, 3)) (ht : (pc : Int) + off = (tgt : Int)) (kt : y < x → A c tgt lv st f) (kf : ¬ y < x → A c (pc + 3) lv st f) : A c pc lv (.int y :: .int x :: st) f := fun p l e s m args below meth cc H locs ls D al ac hX hS hP hV hl => lv_icmp_gt hX.1 hX.2.1 hd ht (fun h => kt h p l e s m args below meth cc H locs ls D al ac hX hS hP hV hl) (fun h => kf h p l e s m args below meth cc H locs ls D al ac hX hS hP hV hl)
theorem A_if_le {c : CT} {pc : Nat} {lv : List (Nat × Value)} {st : List Value} {f : Mem} {x : Int32} {off : Int} {tgt : Nat} (hd : decode (gt_c c.1) pc = .ok (.ifCond .le off, 3)) (ht : (pc : Int) + off = (tgt : Int)) (kt : x ≤ 0 → A c tgt lv st f) (kf : ¬ x ≤ 0 → A c (pc + 3) lv st f) : A c pc lv (.int x :: st) f := fun p l e s m args below meth cc H locs ls D al ac hX hS hP hV hl => lv_if_le hX.1 hX.2.1 hd ht (fun h => kt h p l e s m args below meth cc H locs ls D al ac hX hS hP hV hl) (fun h => kf h p l e s m args below meth cc H locs ls D al ac hX hS hP hV hl)
theorem A_icmp_le {c : CT} {pc : Nat} {lv : List (Nat × Value)} {st : List Value} {f : Mem} {x y : Int32} {off : Int} {tgt : Nat} (hd : decode (gt_c c.1) pc = .ok (.if_icmp .le off, 3)) (ht : (pc : Int) + off = (tgt : Int)) (kt : x ≤ y → A c tgt lv st f) (kf : ¬ x ≤ y → A c (pc + 3) lv st f) : A c pc lv (.int y :: .int x :: st) f := fun p l e s m args below meth cc H locs ls D al ac hX hS hP hV hl => lv_icmp_le hX.1 hX.2.1 hd ht (fun h => kt h p l e s m args below meth cc H locs ls D al ac hX hS hP hV hl) (fun h => kf h p l e s m args below meth cc H locs ls D al ac hX hS hP hV hl)
theorem A_goto {c : CT} {pc : Nat} {lv : List (Nat × Value)} {st : List Value} {f : Mem} {off : Int} {tgt : Nat} (hd : decode (gt_c c.1) pc = .ok (.goto off, 3)) (ht : (pc : Int) + off = (tgt : Int)) (k : A c tgt lv st f) : A c pc lv st f := fun p l e s m args below meth cc H locs ls D al ac hX hS hP hV hl => lv_goto hX.1 hX.2.1 hd ht (k p l e s m args below meth cc H locs ls D al ac hX hS hP hV hl)
theorem A_tabOut {c : CT} {pc : Nat} {lv : List (Nat × Value)} {st : List Value} {f : Mem} {dflt lo hi : Int} {offs : Array Int} {len : Nat} {x : Int32} {tgt : Nat} (hd : decode (gt_c c.1) pc = .ok (.tableswitch dflt lo hi offs, len)) (h : x.toInt < lo ∨ hi < x.toInt) (ht : (pc : Int) + dflt = (tgt : Int)) (k : A c tgt lv st f) : A c pc lv (.int x :: st) f := fun p l e s m args below meth cc H locs ls D al ac hX hS hP hV hl => lv_tableOut hX.1 hX.2.1 hd h ht (k p l e s m args below meth cc H locs ls D al ac hX hS hP hV hl)
theorem A_tabIn {c : CT} {pc : Nat} {lv : List (Nat × Value)} {st : List Value} {f : Mem} {dflt lo hi : Int} {offs : Array Int} {len : Nat} {x : Int32} {off : Int} {tgt : Nat} (hd : decode (gt_c c.1) pc = .ok (.tableswitch dflt lo hi offs, len)) (h1 : ¬ x.toInt < lo) (h2 : ¬ hi < x.toInt) (ho : offs[(x.toInt - lo).toNat]? = some off) (ht : (pc : Int) + off = (tgt : Int)) (k : A c tgt lv st f) : A c pc lv (.int x :: st) f := fun p l e s m args below meth cc H locs ls D al ac hX hS hP hV hl => lv_tableIn hX.1 hX.2.1 hd h1 h2 ho ht (k p l e s m args below meth cc H locs ls D al ac hX hS hP hV hl)
theorem A_ldc {c : CT} {pc : Nat} {lv : List (Nat × Value)} {st : List Value} {f : Mem} {i : Nat} {v : Int32} (hd : decode (gt_c c.1) pc = .ok (.ldc i, 2)) (hw : Cond.constant (gt_y c.1).cls i v ∈ gw) (k : A c (pc + 2) lv (.int v :: st) f) : A c pc lv st f := fun p l e s m args below meth cc H locs ls D al ac hX hS hP hV hl => lv_ldc hX.1 hX.2.1 hX.2.2.2.2.2.1 (hX.2.2.2.2.2.2.1 _ hw) hd (k p l e s m args below meth cc H locs ls D al ac hX hS hP hV hl)
theorem A_ldcw {c : CT} {pc : Nat} {lv : List (Nat × Value)} {st : List Value} {f : Mem} {i : Nat} {v : Int32} (hd : decode (gt_c c.1) pc = .ok (.ldc_w i, 3)) (hw : Cond.constant (gt_y c.1).cls i v ∈ gw) (k : A c (pc + 3) lv (.int v :: st) f) : A c pc lv st f := fun p l e s m args below meth cc H locs ls D al ac hX hS hP hV hl => lv_ldcw hX.1 hX.2.1 hX.2.2.2.2.2.1 (hX.2.2.2.2.2.2.1 _ hw) hd (k p l e s m args below meth cc H locs ls D al ac hX hS hP hV hl)
theorem A_ldc2 {c : CT} {pc : Nat} {lv : List (Nat × Value)} {st : List Value} {f : Mem} {i : Nat} {v : Int64} (hd : decode (gt_c c.1) pc = .ok (.ldc2_w i, 3)) (hw : Cond.constantLong (gt_y c.1).cls i v ∈ gw) (k : A c (pc + 3) lv (.long v :: st) f) : A c pc lv st f := fun p l e s m args below meth cc H locs ls D al ac hX hS hP hV hl => lv_ldc2 hX.1 hX.2.1 hX.2.2.2.2.2.1 (hX.2.2.2.2.2.2.1 _ hw) hd (k p l e s m args below meth cc H locs ls D al ac hX hS hP hV hl)
theorem A_ldcS {c : CT} {pc : Nat} {lv : List (Nat × Value)} {st : List Value} {f : Mem} {i : Nat} (j : Nat) (hd : decode (gt_c c.1) pc = .ok (.ldc i, 2)) (hR : (gt_y c.1).cls = RX4) (hj : j < 9) (hi : i = 76 + 2 * j) (k : A c (pc + 2) lv (.ref (1000 + j) :: st) f) : A c pc lv st f := fun p l e s m args below meth cc H locs ls D al ac hX hS hP hV hl => by
  subst hi
  exact va_ldcS hX.1 hX.2.1 hX.2.2.2.2.2.1 (hR ▸ hS.2.2.1.2.2.1 j hj) hd (k p l e s m args below meth cc H locs ls D al ac hX hS hP hV hl)
theorem A_topi {c : CT} {pc : Nat} {lv : List (Nat × Value)} {st : List Value} {f : Mem} {x : Int32} (y : Int32) (h : x = y) (k : A c pc lv (.int y :: st) f) : A c pc lv (.int x :: st) f := by rw [h]; exact k
theorem A_eq {c : CT} {pc : Nat} {lv : List (Nat × Value)} {st : List Value} {f : Mem} {lv' : List (Nat × Value)} {st' : List Value} {f' : Mem} (h1 : lv = lv') (h2 : st = st') (h3 : f = f') (k : A c pc lv' st' f') : A c pc lv st f := by rw [h1, h2, h3]; exact k
theorem A_sub {c : CT} {pc : Nat} {lv : List (Nat × Value)} {st : List Value} {f : Mem} {lv' : List (Nat × Value)} (ks : List Nat) (h : lv_pick lv ks = lv') (k : A c pc lv' st f) : A c pc lv st f := fun p l e s m args below meth cc H locs ls D al ac hX hS hP hV hl => k p l e s m args below meth cc H locs ls D al ac hX hS hP hV (lv_sub hl ks (by
  subst h
  unfold lv_pick gt_lv
  rw [List.map_filterMap]
  congr 1
  funext j
  rw [List.getElem?_map]))
end
section
/-! fields -/
def FO (own : String) (idx ci k : Nat) (fin : Bool) (tk : FieldType) : Prop := ∃ (C : String) (T : u_T) (N : Nat) (ty : Nat → FieldType), vwCl[ci]? = some (C, T, N) ∧ k < N ∧ (∀ w ∈ u_ws C T N, w ∈ gw) ∧ Cond.fieldLink own idx (T k).1 (T k).2.1 (T k).2.2.1 ∈ gw ∧ (∀ k, k < N → parseFieldDescriptor (T k).2.2.1 = some (ty k)) ∧ (∀ a, a < N → ∀ b, b < N → a ≠ b → (T a).2.1 ≠ (T b).2.1) ∧ (T k).2.2.2 = fin ∧ ty k = tk ∧ (T k).1 = C
theorem gt_we_o (al : Nat → Nat) (ac : Nat → ClassId) (g : Nat → Int32) (ci n : Nat) (fl : List Nat) : gt_we al ac g (ci + 4, n, fl) = .inr (ci, gt_fl al g 0 fl) := rfl
theorem gt_fl_at0 {al : Nat → Nat} {g : Nat → Int32} {fl : List Nat} {k o : Nat} (h : fl[k]? = some o) : (gt_fl al g 0 fl)[k]? = some (gt_fv al g k o) := by rw [gt_fl_at, h, Nat.zero_add]; rfl
theorem A_get {c : CT} {pc : Nat} {lv : List (Nat × Value)} {st : List Value} {f : Mem} {a idx ci k n o : Nat} {fl : List Nat} {fin : Bool} {tk : FieldType} {v : Value} (hd : decode (gt_c c.1) pc = .ok (.getfield idx, 3)) (hF : FO (gt_y c.1).cls idx ci k fin tk) (hL : c.2.2.2.2.2.2[a]? = some (ci + 4, n, fl)) (hk : fl[k]? = some o) (hv : ∀ al, gt_fv al (f a) k o = cz al v) (kk : A c (pc + 3) lv (v :: st) f) : A c pc lv (.ref a :: st) f := by
  intro p l e s m args below meth cc H locs ls D al ac hX hS hP hV hl
  obtain ⟨C, T, N, ty, h1, h2, h3, h4, h5, h6, h7, h8, h9⟩ := hF
  exact va_get (tys := gt_tys ac) hX.1 hX.2.1 hX.2.2.2.2.2.2.1 h3 hX.2.2.2.2.2.1 hS.2.2.1.1 hP a (gt_wd_at hL) h1 k h2 (hX.2.2.2.2.2.2.1 _ h4) (fun x hx => hx) ((gt_fl_at0 hk).trans (by rw [hv al])) hd (kk p l e s m args below meth cc H locs ls D al ac hX hS hP hV hl)
theorem A_getI {c : CT} {pc : Nat} {lv : List (Nat × Value)} {st : List Value} {f : Mem} {a idx ci k n : Nat} {fl : List Nat} {fin : Bool} {tk : FieldType} (hd : decode (gt_c c.1) pc = .ok (.getfield idx, 3)) (hF : FO (gt_y c.1).cls idx ci k fin tk) (hL : c.2.2.2.2.2.2[a]? = some (ci + 4, n, fl)) (hk : fl[k]? = some 0) (kk : A c (pc + 3) lv (.int (f a k) :: st) f) : A c pc lv (.ref a :: st) f := A_get hd hF hL hk (fun _ => rfl) kk
theorem A_getR {c : CT} {pc : Nat} {lv : List (Nat × Value)} {st : List Value} {f : Mem} {a b idx ci k n : Nat} {fl : List Nat} {fin : Bool} {tk : FieldType} (hd : decode (gt_c c.1) pc = .ok (.getfield idx, 3)) (hF : FO (gt_y c.1).cls idx ci k fin tk) (hL : c.2.2.2.2.2.2[a]? = some (ci + 4, n, fl)) (hk : fl[k]? = some (b + 2)) (kk : A c (pc + 3) lv (.ref b :: st) f) : A c pc lv (.ref a :: st) f := A_get hd hF hL hk (fun _ => rfl) kk
theorem A_put {c : CT} {pc : Nat} {lv : List (Nat × Value)} {st : List Value} {f : Mem} {a idx ci k n : Nat} {fl : List Nat} {tk : FieldType} {x : Int32} (hd : decode (gt_c c.1) pc = .ok (.putfield idx, 3)) (hF : FO (gt_y c.1).cls idx ci k false tk) (hL : c.2.2.2.2.2.2[a]? = some (ci + 4, n, fl)) (hk : fl[k]? = some 0) (hn : narrow tk (.int x) = .int x) (hf : fits tk (.int x) = true) (kk : A c (pc + 3) lv st (u2 f a k x)) : A c pc lv (.int x :: .ref a :: st) f := by
  intro p l e s m args below meth cc H locs ls D al ac hX hS hP hV hl
  obtain ⟨C, T, N, ty, h1, h2, h3, h4, h5, h6, h7, h8, h9⟩ := hF
  have hlt : k < (gt_fl al (f a) 0 fl).length := by rw [gt_fl_len]; exact (List.getElem?_eq_some_iff.mp hk).1
  refine va_put (tys := gt_tys ac) (A := gt_A al) (H0 := s.heap) (v := .int x) hX.1 hX.2.1 hX.2.2.2.2.2.2.1 h3 ty h5 h6 hX.2.2.2.2.2.1 hS.2.2.1.1 hP (gt_D hS.1 ac hS.2.1 f) hV a (gt_wd_at hL) h1 k h2 (hX.2.2.2.2.2.2.1 _ h4) (fun x hx => hx) h7 ((h5 k h2).trans (by rw [h8])) hn hf hlt hd fun H1 locs1 hP1 _ hV1 => ?_
  rw [gt_fl_set al (f a) x fl 0 k hk, Nat.zero_add, ← gt_we_o al ac _ ci n fl, gt_wd_set hL] at hP1
  exact kk p l e s m args below meth cc H1 locs1 ls D al ac hX hS hP1 hV1 hl
theorem A_putI {c : CT} {pc : Nat} {lv : List (Nat × Value)} {st : List Value} {f : Mem} {a idx ci k n : Nat} {fl : List Nat} {x : Int32} (hd : decode (gt_c c.1) pc = .ok (.putfield idx, 3)) (hF : FO (gt_y c.1).cls idx ci k false .int) (hL : c.2.2.2.2.2.2[a]? = some (ci + 4, n, fl)) (hk : fl[k]? = some 0) (kk : A c (pc + 3) lv st (u2 f a k x)) : A c pc lv (.int x :: .ref a :: st) f := A_put hd hF hL hk rfl rfl kk
theorem gt_nz {x : Int32} (h : x = 0 ∨ x = 1) : narrow .boolean (.int x) = .int x ∧ fits .boolean (.int x) = true ∧ vp_nar .boolean x = x := by
  rcases h with rfl | rfl <;> decide
theorem A_putZ {c : CT} {pc : Nat} {lv : List (Nat × Value)} {st : List Value} {f : Mem} {a idx ci k n : Nat} {fl : List Nat} {x : Int32} (hd : decode (gt_c c.1) pc = .ok (.putfield idx, 3)) (hF : FO (gt_y c.1).cls idx ci k false .boolean) (hL : c.2.2.2.2.2.2[a]? = some (ci + 4, n, fl)) (hk : fl[k]? = some 0) (hx : x = 0 ∨ x = 1) (kk : A c (pc + 3) lv st (u2 f a k x)) : A c pc lv (.int x :: .ref a :: st) f := A_put hd hF hL hk (gt_nz hx).1 (gt_nz hx).2.1 kk
/-! arrays -/
theorem A_iaload {c : CT} {pc : Nat} {lv : List (Nat × Value)} {st : List Value} {f : Mem} {a n : Nat} {rl : List Nat} {i : Int32} (j : Nat) (hd : decode (gt_c c.1) pc = .ok (.iaload, 1)) (hL : c.2.2.2.2.2.2[a]? = some (0, n, rl)) (hi : i = nI j) (hj : j < n) (hn : n < 2 ^ 31) (kk : A c (pc + 1) lv (.int (f a j) :: st) f) : A c pc lv (.int i :: .ref a :: st) f := by
  intro p l e s m args below meth cc H locs ls D al ac hX hS hP hV hl
  subst hi
  refine va_iald (tys := gt_tys ac) hX.1 hX.2.1 hS.2.2.1.1 hP a 0 (gt_wd_at hL) rfl (vp_in_nI hj hn) hd ?_
  rw [nI_clamp (by omega)]
  exact kk p l e s m args below meth cc H locs ls D al ac hX hS hP hV hl
theorem A_iastore {c : CT} {pc : Nat} {lv : List (Nat × Value)} {st : List Value} {f : Mem} {a n : Nat} {rl : List Nat} {i x : Int32} (j : Nat) (hd : decode (gt_c c.1) pc = .ok (.iastore, 1)) (hL : c.2.2.2.2.2.2[a]? = some (0, n, rl)) (hi : i = nI j) (hj : j < n) (hn : n < 2 ^ 31) (kk : A c (pc + 1) lv st (u2 f a j x)) : A c pc lv (.int x :: .int i :: .ref a :: st) f := by
  intro p l e s m args below meth cc H locs ls D al ac hX hS hP hV hl
  subst hi
  refine va_iast (tys := gt_tys ac) (A := gt_A al) (H0 := s.heap) hX.1 hX.2.1 hS.2.2.1.1 hP (gt_D hS.1 ac hS.2.1 f) hV a 0 (gt_wd_at hL) rfl (vp_in_nI hj hn) hd fun H1 locs1 hP1 _ hV1 => ?_
  rw [nI_clamp (by omega)] at hP1
  have e9 := gt_wd_set (al := al) (ac := ac) (f := f) hL (upd (f a) j x)
  exact kk p l e s m args below meth cc H1 locs1 ls D al ac hX hS (e9 ▸ hP1) hV1 hl
theorem A_zaload {c : CT} {pc : Nat} {lv : List (Nat × Value)} {st : List Value} {f : Mem} {a n : Nat} {rl : List Nat} {i : Int32} (j : Nat) (hd : decode (gt_c c.1) pc = .ok (.baload, 1)) (hL : c.2.2.2.2.2.2[a]? = some (1, n, rl)) (hi : i = nI j) (hj : j < n) (hn : n < 2 ^ 31) (kk : A c (pc + 1) lv (.int (f a j) :: st) f) : A c pc lv (.int i :: .ref a :: st) f := by
  intro p l e s m args below meth cc H locs ls D al ac hX hS hP hV hl
  subst hi
  refine va_zald (tys := gt_tys ac) hX.1 hX.2.1 hS.2.2.1.1 hP a 1 (gt_wd_at hL) rfl (vp_in_nI hj hn) hd ?_
  rw [nI_clamp (by omega)]
  exact kk p l e s m args below meth cc H locs ls D al ac hX hS hP hV hl
theorem A_zastore {c : CT} {pc : Nat} {lv : List (Nat × Value)} {st : List Value} {f : Mem} {a n : Nat} {rl : List Nat} {i x : Int32} (j : Nat) (hd : decode (gt_c c.1) pc = .ok (.bastore, 1)) (hL : c.2.2.2.2.2.2[a]? = some (1, n, rl)) (hi : i = nI j) (hj : j < n) (hn : n < 2 ^ 31) (hx : x = 0 ∨ x = 1) (kk : A c (pc + 1) lv st (u2 f a j x)) : A c pc lv (.int x :: .int i :: .ref a :: st) f := by
  intro p l e s m args below meth cc H locs ls D al ac hX hS hP hV hl
  subst hi
  refine va_zast (tys := gt_tys ac) (A := gt_A al) (H0 := s.heap) hX.1 hX.2.1 hS.2.2.1.1 hP (gt_D hS.1 ac hS.2.1 f) hV a 1 (gt_wd_at hL) rfl (vp_in_nI hj hn) hd fun H1 locs1 hP1 _ hV1 => ?_
  rw [nI_clamp (by omega), (gt_nz hx).2.2] at hP1
  have e9 := gt_wd_set (al := al) (ac := ac) (f := f) hL (upd (f a) j x)
  exact kk p l e s m args below meth cc H1 locs1 ls D al ac hX hS (e9 ▸ hP1) hV1 hl
theorem gt_ra_at {al : Nat → Nat} {rl : List Nat} {j b : Nat} (h : rl[j]? = some (b + 2)) : gt_ra al rl j = some (al b) := by
  unfold gt_ra
  rw [List.getD_eq_getElem?_getD, h]
  rfl
theorem A_aaload2 {c : CT} {pc : Nat} {lv : List (Nat × Value)} {st : List Value} {f : Mem} {a b n : Nat} {rl : List Nat} {i : Int32} (j : Nat) (hd : decode (gt_c c.1) pc = .ok (.aaload, 1)) (hL : c.2.2.2.2.2.2[a]? = some (2, n, rl)) (hi : i = nI j) (hj : j < n) (hn : n < 2 ^ 31) (hr : rl[j]? = some (b + 2)) (kk : A c (pc + 1) lv (.ref b :: st) f) : A c pc lv (.int i :: .ref a :: st) f := by
  intro p l e s m args below meth cc H locs ls D al ac hX hS hP hV hl
  subst hi
  refine va_aldq (tys := gt_tys ac) hX.1 hX.2.1 hS.2.2.1.1 hP a 2 (gt_wd_at hL) rfl (vp_in_nI hj hn) hd ?_
  rw [nI_clamp (by omega), gt_ra_at hr]
  exact kk p l e s m args below meth cc H locs ls D al ac hX hS hP hV hl
theorem A_aaload3 {c : CT} {pc : Nat} {lv : List (Nat × Value)} {st : List Value} {f : Mem} {a b n : Nat} {rl : List Nat} {i : Int32} (j : Nat) (hd : decode (gt_c c.1) pc = .ok (.aaload, 1)) (hL : c.2.2.2.2.2.2[a]? = some (3, n, rl)) (hi : i = nI j) (hj : j < n) (hn : n < 2 ^ 31) (hr : rl[j]? = some (b + 2)) (kk : A c (pc + 1) lv (.ref b :: st) f) : A c pc lv (.int i :: .ref a :: st) f := by
  intro p l e s m args below meth cc H locs ls D al ac hX hS hP hV hl
  subst hi
  have hin : vp_in (nI j) n := vp_in_nI hj hn
  have hlt : (nI j).toNatClampNeg < n := Nat.not_le.mp fun q => hin (Or.inr q)
  refine W.aald (v := va_rf (gt_ra al rl (nI j).toNatClampNeg)) (ty := .array .int) hX.1 hX.2.1 (hP a _ (gt_wd_at hL)) ((hS.2.2.1.1.2 3 _ rfl).1 n (fun j => va_rf (gt_ra al rl j))) rfl (fun q => by cases q) (by show ¬ (nI j < 0 ∨ (arrV _ _ _).slots.size ≤ _); rw [arrV_size]; exact hin) (by show (arrV _ _ _).slots[_]? = _; rw [arrV_read _ _ hlt]) rfl rfl hd ?_
  rw [nI_clamp (by omega), gt_ra_at hr]
  exact kk p l e s m args below meth cc H locs ls D al ac hX hS hP hV hl
theorem A_alen {c : CT} {pc : Nat} {lv : List (Nat × Value)} {st : List Value} {f : Mem} {a n : Nat} {rl : List Nat} (hd : decode (gt_c c.1) pc = .ok (.arraylength, 1)) (hL : c.2.2.2.2.2.2[a]? = some (0, n, rl)) (kk : A c (pc + 1) lv (.int (nI n) :: st) f) : A c pc lv (.ref a :: st) f := by
  intro p l e s m args below meth cc H locs ls D al ac hX hS hP hV hl
  exact va_alen (tys := gt_tys ac) hX.1 hX.2.1 hS.2.2.1.1 hP a 0 (gt_wd_at hL) rfl rfl hd (kk p l e s m args below meth cc H locs ls D al ac hX hS hP hV hl)
/-- System.arraycopy of ints: n of them from sp on to dp on -/
def gt_cpy (f : Mem) (a0 sp a dp n : Nat) : Mem := ur f a (va_cpy (f a0) (f a) sp dp n)
def gt_CW (own : String) (idx : Nat) : Prop := Cond.methodLink own idx arraycopyName ∈ gw ∧ Cond.native arraycopyName ∈ gw ∧ Cond.static arraycopyName ∈ gw ∧ Cond.initialized "java/lang/System" ∈ gw
theorem A_copy {c : CT} {pc : Nat} {lv : List (Nat × Value)} {st : List Value} {f : Mem} {a a0 idx n0 n1 : Nat} {r0 r1 : List Nat} {sp dp n : Int32} (isp idp inn : Nat) (hd : decode (gt_c c.1) pc = .ok (.invokestatic idx, 3)) (hw : gt_CW (gt_y c.1).cls idx) (hL0 : c.2.2.2.2.2.2[a0]? = some (0, n0, r0)) (hL : c.2.2.2.2.2.2[a]? = some (0, n1, r1)) (h1 : sp = nI isp) (h2 : dp = nI idp) (h3 : n = nI inn) (h4 : isp + inn ≤ n0) (h5 : idp + inn ≤ n1) (h6 : n0 < 2 ^ 31 ∧ n1 < 2 ^ 31) (hR : 1 ≤ c.2.1.frames ∧ (st.map fun v => v.category).sum + 18 ≤ c.2.1.locals)
    (kk : A c (pc + 3) lv st (gt_cpy f a0 isp a idp inn)) : A c pc lv (.int n :: .int dp :: .ref a :: .int sp :: .ref a0 :: st) f := by
  intro p l e s m args below meth cc H locs ls D al ac hX hS hP hV hl
  subst h1; subst h2; subst h3
  have hcat : ((st.map (cz al)).map fun v => v.category).sum = (st.map fun v => v.category).sum := by
    rw [List.map_map]
    congr 2
    funext v
    exact cz_cat al v
  refine va_copyi (tys := gt_tys ac) (A := gt_A al) (H0 := s.heap) hX.1 hX.2.1 (hX.2.2.1.trans hl.1.symm) hX.2.2.2.2.2.1 (hX.2.2.2.2.2.2.1 _ hw.1) (hX.2.2.2.2.2.2.1 _ hw.2.1) (hX.2.2.2.2.2.2.1 _ hw.2.2.1) (hX.2.2.2.2.2.2.1 _ hw.2.2.2) hS.2.2.1.1 hP (gt_D hS.1 ac hS.2.1 f) hV a0 a 0 0 (gt_wd_at hL0) (gt_wd_at hL) rfl rfl rfl (nI_pos (by omega)) (nI_pos (by omega)) (nI_pos (by omega)) (by rw [nI_clamp (by omega), nI_clamp (by omega)]; exact h4) (by rw [nI_clamp (by omega), nI_clamp (by omega)]; exact h5) (fun _ _ => rfl) hR.1 (by rw [hcat]; exact hR.2) hd fun H1 locs1 hP1 _ hV1 => ?_
  rw [nI_clamp (by omega), nI_clamp (by omega), nI_clamp (by omega)] at hP1
  have e9 := gt_wd_set (al := al) (ac := ac) (f := f) hL (va_cpy (f a0) (f a) isp idp inn)
  exact kk p l e s m args below meth cc H1 locs1 ls D al ac hX hS (e9 ▸ hP1) hV1 hl
def gt_MW (own : String) (idx : Nat) : Prop := Cond.methodLink own idx Lib.Math.min.name ∈ gw ∧ Cond.static Lib.Math.min.name ∈ gw ∧ Cond.initialized "java/lang/Math" ∈ gw ∧ Cond.code Lib.Math.min.name Lib.Math.min.code 2 (some .int) ∈ gw
theorem A_min {c : CT} {pc : Nat} {lv : List (Nat × Value)} {st : List Value} {f : Mem} {idx : Nat} {x y : Int32} (hd : decode (gt_c c.1) pc = .ok (.invokestatic idx, 3)) (hw : gt_MW (gt_y c.1).cls idx) (hR : 1 ≤ c.2.1.frames ∧ (st.map fun v => v.category).sum + 13 ≤ c.2.1.locals) (hc : c.2.2.1 ≤ c.2.1.cells ∧ c.2.2.2.1 ≤ c.2.1.slots) (kk : A c (pc + 3) lv (.int (if y < x then y else x) :: st) f) : A c pc lv (.int y :: .int x :: st) f := by
  intro p l e s m args below meth cc H locs ls D al ac hX hS hP hV hl
  have hcat : ((st.map (cz al)).map fun v => v.category).sum = (st.map fun v => v.category).sum := by
    rw [List.map_map]
    congr 2
    funext v
    exact cz_cat al v
  exact va_mmin hX.1 hX.2.1 (hX.2.2.1.trans hl.1.symm) hX.2.2.2.2.2.1 (hX.2.2.2.2.2.2.1 _ hw.1) (hX.2.2.2.2.2.2.1 _ hw.2.1) (hX.2.2.2.2.2.2.1 _ hw.2.2.1) (hX.2.2.2.2.2.2.1 _ hw.2.2.2) hR.1 (by rw [hcat]; exact hR.2) hc.1 hc.2 hd (kk p l e s m args below meth cc H locs ls D al ac hX hS hP hV hl)
/-! answers -/
theorem A_iret {M : MT} {R : Room} {nc ns : Nat} {X : XT} {lay : List Ly} {post : Option Value → Mem → Prop} {pc : Nat} {lv : List (Nat × Value)} {f : Mem} {x : Int32} (hd : decode (gt_c M) pc = .ok (.ireturn, 1)) (hr : gt_r M = some .int) (hp : post (some (.int x)) f) : A (M, R, nc, ns, X, gt_Z nc ns lay post, lay) pc lv [.int x] f := by
  intro p l e s m args below meth cc H locs ls D al ac hX hS hP hV hl
  exact W.iret hX.1 hX.2.1 (hX.2.2.2.1.trans hr) (fun t ht hW => ⟨⟨some (.int x), f, rfl, hp, by rw [ht]; exact hP⟩, hV.F ht⟩) hV.2.2 hd hX.2.2.2.2.1
theorem A_nret {M : MT} {R : Room} {nc ns : Nat} {X : XT} {lay : List Ly} {post : Option Value → Mem → Prop} {pc : Nat} {lv : List (Nat × Value)} {f : Mem} {x : Int32} {ty : FieldType} (hd : decode (gt_c M) pc = .ok (.ireturn, 1)) (hr : gt_r M = some ty) (hn : narrow ty (.int x) = .int x) (hp : post (some (.int x)) f) : A (M, R, nc, ns, X, gt_Z nc ns lay post, lay) pc lv [.int x] f := by
  intro p l e s m args below meth cc H locs ls D al ac hX hS hP hV hl
  exact W.zret hX.1 hX.2.1 (hX.2.2.2.1.trans hr) hn (fun t ht hW => ⟨⟨some (.int x), f, rfl, hp, by rw [ht]; exact hP⟩, hV.F ht⟩) hV.2.2 hd hX.2.2.2.2.1
theorem A_zret {M : MT} {R : Room} {nc ns : Nat} {X : XT} {lay : List Ly} {post : Option Value → Mem → Prop} {pc : Nat} {lv : List (Nat × Value)} {f : Mem} {x : Int32} (hd : decode (gt_c M) pc = .ok (.ireturn, 1)) (hr : gt_r M = some .boolean) (hx : x = 0 ∨ x = 1) (hp : post (some (.int x)) f) : A (M, R, nc, ns, X, gt_Z nc ns lay post, lay) pc lv [.int x] f := A_nret hd hr (gt_nz hx).1 hp
theorem A_vret {M : MT} {R : Room} {nc ns : Nat} {X : XT} {lay : List Ly} {post : Option Value → Mem → Prop} {pc : Nat} {lv : List (Nat × Value)} {f : Mem} (hd : decode (gt_c M) pc = .ok (.return_, 1)) (hr : gt_r M = none) (hp : post none f) : A (M, R, nc, ns, X, gt_Z nc ns lay post, lay) pc lv [] f := by
  intro p l e s m args below meth cc H locs ls D al ac hX hS hP hV hl
  exact W.vret hX.1 hX.2.1 (hX.2.2.2.1.trans hr) (fun t ht hW => ⟨⟨none, f, rfl, hp, by rw [ht]; exact hP⟩, hV.F ht⟩) hV.2.2 hd hX.2.2.2.2.1
theorem A_aret {M : MT} {R : Room} {nc ns : Nat} {X : XT} {lay : List Ly} {post : Option Value → Mem → Prop} {pc : Nat} {lv : List (Nat × Value)} {f : Mem} {a : Nat} {C : String} (hd : decode (gt_c M) pc = .ok (.areturn, 1)) (hr : gt_r M = some (.object C)) (hp : post (some (.ref a)) f) : A (M, R, nc, ns, X, gt_Z nc ns lay post, lay) pc lv [.ref a] f := by
  intro p l e s m args below meth cc H locs ls D al ac hX hS hP hV hl
  exact W.aret hX.1 hX.2.1 (hX.2.2.2.1.trans hr) (Or.inl ⟨_, rfl⟩) (Or.inr ⟨_, rfl⟩) (fun t ht hW => ⟨⟨some (.ref a), f, rfl, hp, by rw [ht]; exact hP⟩, hV.F ht⟩) hV.2.2 hd hX.2.2.2.2.1
end
section
/-! calls -/
theorem gt_cat (al : Nat → Nat) (st : List Value) : ((st.map (cz al)).map fun v => v.category).sum = (st.map fun v => v.category).sum := by
  rw [List.map_map]
  congr 2
  funext v
  exact cz_cat al v
/-- the heap has just the law's cells behind the old ones -/
theorem gt_size {D : va_G} {al : Nat → Nat} {ac : Nat → ClassId} {lay : List Ly} {f : Mem} {s : State} {H : Heap} {nc : Nat} {locs : List Loc} (hal : gt_al al) (hlen : lay.length < 1000) (hz : s.heap.size + nc = al lay.length) (h0 : al 0 ≤ s.heap.size) (hP : va_P D vwCl (gt_wd al ac lay f) H) (hV : va_S (gt_A al) s.heap H locs) (hle : H.size ≤ s.heap.size + nc) : H.size = al lay.length := by
  refine Nat.le_antisymm (by omega) ?_
  rw [hal _ hlen]
  rcases Nat.eq_zero_or_pos lay.length with h | h
  · rw [h, Nat.add_zero]; exact Nat.le_trans h0 hV.1
  · obtain ⟨q, hq⟩ : ∃ q, lay[lay.length - 1]? = some q := ⟨_, List.getElem?_eq_getElem (by omega)⟩
    have h1 := (hP _ _ (gt_wd_at (al := al) (ac := ac) (f := f) hq)).lt
    have h2 := hal (lay.length - 1) (by omega)
    dsimp only at h1
    omega
theorem gt_stand_size {p : Program} {l : Launch} {e : Env} {R : Room} {s : State} {m : MethodId} {args : Array Value} {below : List Frame} {meth : Method} {c : Code} {T : State} {locs : List Loc} {cells slots : Nat} (X : Stand p l e R s m args below meth c T locs cells slots) : T.heap.size ≤ s.heap.size + cells := X.same.2.2.1
theorem gt_blind (av : List Value) (D : va_G) (al : Nat → Nat) (ac : Nat → ClassId) (lay : List Ly) (f : Mem) : FrameBlind (va_Pc av (gt_P D al ac lay f)) := by
  intro a U g mk h
  obtain ⟨h0, h1, h2, h3, h4⟩ := h
  refine ⟨h0, h1, ?_, ?_, h4⟩
  · exact ⟨va_K.moved (u := U) (U := U.calling g mk a) (Vm.Alike.refl U.vm) h2.1, fun q hq => va_Nw.same (u := U) (U := U.calling g mk a) rfl rfl (h2.2.1 q hq), fun i hi => vk_R.same (u := U) (U := U.calling g mk a) rfl (h2.2.2.1 i hi), va_AO.moved (u := U) (U := U.calling g mk a) (Vm.Alike.refl U.vm) h2.2.2.2⟩
  · exact ⟨vk_S.moved (u := U) (U := U.calling g mk a) (Vm.Alike.refl U.vm) h3.1, va_Z.moved (u := U) (U := U.calling g mk a) (Vm.Alike.refl U.vm) h3.2.1, va_Zq.moved (u := U) (U := U.calling g mk a) (Vm.Alike.refl U.vm) h3.2.2⟩
theorem gt_good {M : MT} (h : Cond.code (gt_y M) (gt_c M) (gt_L M) (gt_r M) ∈ gw) : GoodIn gw (gt_ws M) := by
  intro w hw
  rcases List.mem_cons.mp hw with rfl | h1
  · exact ⟨h, good_of_word (List.mem_filter.mp h).2⟩
  · exact ⟨h1, good_of_word (List.mem_filter.mp h1).2⟩
/-- the callee's own words: its code, its class, its descriptor -/
def gt_MO (M : MT) (n : Nat) : Prop := Cond.code (gt_y M) (gt_c M) (gt_L M) (gt_r M) ∈ gw ∧ Cond.initialized (gt_y M).cls ∈ gw ∧ ((gt_y M).cls ≠ "java/lang/invoke/MethodHandle" ∧ (gt_y M).cls ≠ "java/lang/invoke/VarHandle" ∧ (parseMethodDescriptor (gt_y M).desc).map (fun d => d.parameters.length) = some n)
/-- an instance method's -/
def gt_IO (M : MT) : Prop := Cond.instanceMethod (gt_y M) ∈ gw ∧ Cond.selects (gt_y M).cls (gt_y M) (gt_y M) ∈ gw
/-- the room for a call of M' -/
def gt_rm (R : Room) (M' : MT) : Prop := gt_fr M' + 1 ≤ R.frames ∧ 8 + (gt_L M' + 11) + gt_wo M' ≤ R.locals
theorem gt_CB {R : Room} {s : State} {args : Array Value} {own : String} {idx : Nat} {M : MT} {n mc ms : Nat} (hts : ∀ w ∈ gw, w.before args s = true) (hO : gt_MO M n) (hl : Cond.methodLink own idx (gt_y M) ∈ gw) (hR : gt_rm R M) : CallB R s args own idx (gt_y M) (gt_c M) (gt_L M) (gt_r M) (gt_ws M) (gt_R M mc ms) mc ms n :=
  callB_of n hts (gt_good hO.1) rfl rfl rfl (hts _ hO.2.1) (hts _ hl) hO.2.2 hR
/-- behind a call -/
theorem gt_behind {p : Program} {l : Launch} {e : Env} {R : Room} {s : State} {m : MethodId} {args : Array Value} {below : List Frame} {meth : Method} {cc : Code} {H : Heap} {locs : List Loc} {nc ns mc ms : Nat} {Q : State → Prop} {D : va_G} {al : Nat → Nat} {ac : Nat → ClassId} {lay' : List Ly} {post : Option Value → Mem → Prop} {pc : Nat} {ls : Array Slot} {st rest : List Value} {a : Array Value} {T : State}
    (hV : va_S (gt_A al) s.heap H locs) (X : Stand p l e R s m args below meth cc T locs nc ns) (hT : T.heap = H)
    (hr : va_Run p l e R s m args below meth cc H locs nc ns mc ms (F0 m pc ls st) (rest.map (cz al)) (gt_Q D al ac lay' post a) (gt_A al))
    (k : ∀ (r : Option Value) (g : Mem) (H1 : Heap) (locs1 : List Loc), post r g → va_P D vwCl (gt_wd al ac lay' g) H1 → va_S (gt_A al) s.heap H1 locs1 → W p l e R s m args below meth cc H1 locs1 (nc + mc) (ns + ms) Q (F0 m (pc + 3) ls ((r.toList ++ rest).map (cz al)))) : ∃ t, Steps p.tables e below (T.setTop (F0 m pc ls st)) t ∧ Q t := by
  obtain ⟨v, st₀, t, T', L, h0, X', hL, e1, e2, ⟨⟨r, g, hv, hp, hP⟩, hz, hk⟩, go⟩ := hr T hT X
  cases hv
  rw [h0] at hz hk
  have hV1 : va_S (gt_A al) s.heap T'.heap (locs ++ L) := ⟨Nat.le_trans hV.1 (by rw [e1]; exact hz), fun q h1 h2 => by rw [e1, hk q (Nat.lt_of_lt_of_le h1 hV.1) h2]; exact hV.2.1 q h1 h2, fun q hq => by
    rcases List.mem_append.mp hq with h | h
    · exact hV.2.2 q h
    · exact hL q h⟩
  obtain ⟨t2, a1, b1⟩ := k r g T'.heap (locs ++ L) hp (by rw [e1]; exact hP) hV1 T' rfl X'
  refine ⟨t2, go t2 ?_, b1⟩
  have es : (r.toList ++ rest).map (cz al) = (r.map (cz al)).toList ++ rest.map (cz al) := by cases r <;> simp
  rw [es] at a1
  exact a1
theorem gt_pre {D : va_G} {al : Nat → Nat} {ac : Nat → ClassId} {lay : List Ly} {f : Mem} {s : State} {H : Heap} {locs : List Loc} (as : List Value) (hK : gt_K D al ac s) (hE : gt_E al s s.heap) (hP : va_P D vwCl (gt_wd al ac lay f) H) (hV : va_S (gt_A al) s.heap H locs) (hz : H.size = al lay.length) : ∀ U : State, U.heap = H → s.WarmedH U.vm → va_Pc (as.map (cz al)) (gt_P D al ac lay f) (as.map (cz al)).toArray U := by
  intro U hU hW
  exact ⟨rfl, by rw [hU]; exact hP, hK.warm hW, by rw [hU]; exact hE.move hW.alike hV, by rw [hU]; exact hz⟩
/-- invokevirtual -/
theorem A_callV {M : MT} {R : Room} {nc ns : Nat} {X : XT} {Z : ZT} {lay : List Ly} {pc : Nat} {lv : List (Nat × Value)} {st : List Value} {f : Mem} {M' : MT} {idx n ci nn : Nat} {fl : List Nat} {post : Option Value → Mem → Prop} (As rest : List Value) (b : Nat) (hd : decode (gt_c M) pc = .ok (.invokevirtual idx, 3)) (hl' : Cond.methodLink (gt_y M).cls idx (gt_y M') ∈ gw) (hO : gt_MO M' n) (hI : gt_IO M') (hst : As.reverse ++ .ref b :: rest = st) (hn : As.length = n) (hR : gt_rm R M') (hrest : (rest.map fun v => v.category).sum ≤ 8) (hcs : nc ≤ R.cells ∧ ns ≤ R.slots) (hL : lay[b]? = some (ci + 4, nn, fl)) (hC : (vwCl[ci]?).map (fun q => q.1) = some (gt_y M').cls) (ct : Ct M' 0 0 lay lay (.ref b :: As) f post)
    (k : ∀ (r : Option Value) (g : Mem), post r g → A (M, R, nc, ns, X, Z, lay) (pc + 3) lv (r.toList ++ rest) g) : A (M, R, nc, ns, X, Z, lay) pc lv st f := by
  intro p l e s m args below meth cc H locs ls D al ac hX hS hP hV hl
  subst hst
  intro T hT XX
  have hz : H.size = al lay.length := gt_size hS.1 hS.2.1 hS.2.2.2.2.2.1 hS.2.2.2.2.2.2 hP hV (by rw [← hT]; exact gt_stand_size XX)
  obtain ⟨q, hq1, hq2⟩ : ∃ q : vw_C, vwCl[ci]? = some q ∧ q.1 = (gt_y M').cls := by
    cases h : vwCl[ci]? with
    | none => rw [h] at hC; cases hC
    | some q => rw [h] at hC; exact ⟨q, rfl, Option.some.inj hC⟩
  have hrec := va_recv hS.2.2.1.1 hP hq1 (gt_wd_at (al := al) (ac := ac) (f := f) hL)
  rw [hq2] at hrec
  refine gt_behind (rest := rest) (st := (As.reverse ++ .ref b :: rest).map (cz al)) hV XX hT (va_runV (As := As.map (cz al)) (b := al b) (C := (gt_y M').cls) ⟨hX.1, hX.2.1, hX.2.2.1, hX.2.2.2.2.2.1, hX.2.2.2.2.2.2.1⟩ (ct l D al ac hS.1 hS.2.1) ⟨gt_CB hX.2.2.2.2.2.2.1 hO hl' hR, hX.2.2.2.2.2.2.1 _ hI.1, hX.2.2.2.2.2.2.1 _ hI.2⟩ ⟨gt_blind _ D al ac lay f, hrec, gt_pre (.ref b :: As) hS.2.2.1 hS.2.2.2.1 hP hV hz⟩ rfl (by rw [List.length_map]; exact hn) hl.1 (by simp [cz, List.map_reverse]) (lv_room (by rw [gt_cat]; exact hrest)) hd hcs) ?_
  intro r g H1 locs1 hp hP1 hV1
  exact k r g hp p l e s m args below meth cc H1 locs1 ls D al ac hX hS hP1 hV1 hl
/-- invokestatic -/
theorem A_callS {M : MT} {R : Room} {nc ns : Nat} {X : XT} {Z : ZT} {lay : List Ly} {pc : Nat} {lv : List (Nat × Value)} {st : List Value} {f : Mem} {M' : MT} {idx n : Nat} {post : Option Value → Mem → Prop} (As rest : List Value) (hd : decode (gt_c M) pc = .ok (.invokestatic idx, 3)) (hl' : Cond.methodLink (gt_y M).cls idx (gt_y M') ∈ gw) (hO : gt_MO M' n) (hI : Cond.static (gt_y M') ∈ gw) (hst : As.reverse ++ rest = st) (hn : As.length = n) (hR : gt_rm R M') (hrest : (rest.map fun v => v.category).sum ≤ 8) (hcs : nc ≤ R.cells ∧ ns ≤ R.slots) (ct : Ct M' 0 0 lay lay As f post)
    (k : ∀ (r : Option Value) (g : Mem), post r g → A (M, R, nc, ns, X, Z, lay) (pc + 3) lv (r.toList ++ rest) g) : A (M, R, nc, ns, X, Z, lay) pc lv st f := by
  intro p l e s m args below meth cc H locs ls D al ac hX hS hP hV hl
  subst hst
  intro T hT XX
  have hz : H.size = al lay.length := gt_size hS.1 hS.2.1 hS.2.2.2.2.2.1 hS.2.2.2.2.2.2 hP hV (by rw [← hT]; exact gt_stand_size XX)
  refine gt_behind (rest := rest) (st := (As.reverse ++ rest).map (cz al)) hV XX hT (va_runS (As := As.map (cz al)) ⟨hX.1, hX.2.1, hX.2.2.1, hX.2.2.2.2.2.1, hX.2.2.2.2.2.2.1⟩ (ct l D al ac hS.1 hS.2.1) ⟨gt_CB hX.2.2.2.2.2.2.1 hO hl' hR, hX.2.2.2.2.2.2.1 _ hI⟩ ⟨gt_blind _ D al ac lay f, gt_pre As hS.2.2.1 hS.2.2.2.1 hP hV hz⟩ rfl (by rw [List.length_map]; exact hn) hl.1 (by simp [List.map_reverse]) (lv_room (by rw [gt_cat]; exact hrest)) hd hcs) ?_
  intro r g H1 locs1 hp hP1 hV1
  exact k r g hp p l e s m args below meth cc H1 locs1 ls D al ac hX hS hP1 hV1 hl
/-- invokestatic of a nest mate's private method -/
theorem A_callSN {M : MT} {R : Room} {nc ns : Nat} {X : XT} {Z : ZT} {lay : List Ly} {pc : Nat} {lv : List (Nat × Value)} {st : List Value} {f : Mem} {M' : MT} {idx n : Nat} {post : Option Value → Mem → Prop} (As rest : List Value) (hd : decode (gt_c M) pc = .ok (.invokestatic idx, 3)) (hl' : ((gt_y M).cls, idx, gt_y M') ∈ gt_nest) (hO : gt_MO M' n) (hI : Cond.static (gt_y M') ∈ gw) (hst : As.reverse ++ rest = st) (hn : As.length = n) (hR : gt_rm R M') (hrest : (rest.map fun v => v.category).sum ≤ 8) (hcs : nc ≤ R.cells ∧ ns ≤ R.slots) (ct : Ct M' 0 0 lay lay As f post)
    (k : ∀ (r : Option Value) (g : Mem), post r g → A (M, R, nc, ns, X, Z, lay) (pc + 3) lv (r.toList ++ rest) g) : A (M, R, nc, ns, X, Z, lay) pc lv st f := by
  intro p l e s m args below meth cc H locs ls D al ac hX hS hP hV hl
  subst hst
  intro T hT XX
  have hz : H.size = al lay.length := gt_size hS.1 hS.2.1 hS.2.2.2.2.2.1 hS.2.2.2.2.2.2 hP hV (by rw [← hT]; exact gt_stand_size XX)
  have hts := hX.2.2.2.2.2.2.1
  refine gt_behind (rest := rest) (st := (As.reverse ++ rest).map (cz al)) hV XX hT (va_runSN (As := As.map (cz al)) (host := RX10) ⟨hX.1, hX.2.1, hX.2.2.1, hX.2.2.2.2.2.1, hts⟩ (ct l D al ac hS.1 hS.2.1) ⟨va_cnB n hts (gt_good hO.1) rfl rfl rfl (hS.2.2.1.2.1 _ hl') (hts _ hO.2.1) hO.2.2 hR, hts _ hI, trivial⟩ ⟨gt_blind _ D al ac lay f, gt_pre As hS.2.2.1 hS.2.2.2.1 hP hV hz⟩ rfl (by rw [List.length_map]; exact hn) hl.1 (by simp [List.map_reverse]) (lv_room (by rw [gt_cat]; exact hrest)) hd hcs) ?_
  intro r g H1 locs1 hp hP1 hV1
  exact k r g hp p l e s m args below meth cc H1 locs1 ls D al ac hX hS hP1 hV1 hl
end
