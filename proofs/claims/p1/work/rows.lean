section
-- ===== PART A: goes FIRST, ahead of the names: the tables' words, and 'selects' of the private methods out of them =====
/-- a private method of a class that the tables say can be made, by its rows of tables_1 -/
def lw_okq (q : MethodName × Nat) : Prop := (q.1.cls ≠ "java/lang/invoke/MethodHandle" ∧ q.1.cls ≠ "java/lang/invoke/VarHandle") ∧ Cond.instantiable q.1.cls q.2 ∈ tables_1 ∧ Cond.privateMethod q.1 ∈ tables_1 ∧ Cond.instanceMethod q.1 ∈ tables_1
theorem lw_p0 : lw_okq (⟨"MakerStarts$Tokens", "goesOn", "(I)Z"⟩, 9) := ⟨⟨by decide +kernel, by decide +kernel⟩, List.mem_of_getElem? (i := 125) (by decide +kernel), List.mem_of_getElem? (i := 446) (by decide +kernel), List.mem_of_getElem? (i := 447) (by decide +kernel)⟩
theorem lw_p1 : lw_okq (⟨"MakerStarts$Tokens", "lengthen", "(I)V"⟩, 9) := ⟨⟨by decide +kernel, by decide +kernel⟩, List.mem_of_getElem? (i := 125) (by decide +kernel), List.mem_of_getElem? (i := 456) (by decide +kernel), List.mem_of_getElem? (i := 457) (by decide +kernel)⟩
theorem lw_p2 : lw_okq (⟨"MakerStarts$Tokens", "open", "(II)V"⟩, 9) := ⟨⟨by decide +kernel, by decide +kernel⟩, List.mem_of_getElem? (i := 125) (by decide +kernel), List.mem_of_getElem? (i := 461) (by decide +kernel), List.mem_of_getElem? (i := 462) (by decide +kernel)⟩
theorem lw_p3 : lw_okq (⟨"MakerStarts$Tokens", "findKeys", "()V"⟩, 9) := ⟨⟨by decide +kernel, by decide +kernel⟩, List.mem_of_getElem? (i := 125) (by decide +kernel), List.mem_of_getElem? (i := 525) (by decide +kernel), List.mem_of_getElem? (i := 526) (by decide +kernel)⟩
theorem lw_p4 : lw_okq (⟨"MakerStarts$Reader", "head", "()LMakerStarts$Type;"⟩, 3) := ⟨⟨by decide +kernel, by decide +kernel⟩, List.mem_of_getElem? (i := 119) (by decide +kernel), List.mem_of_getElem? (i := 537) (by decide +kernel), List.mem_of_getElem? (i := 538) (by decide +kernel)⟩
theorem lw_p5 : lw_okq (⟨"MakerStarts$Reader", "startsMember", "()Z"⟩, 3) := ⟨⟨by decide +kernel, by decide +kernel⟩, List.mem_of_getElem? (i := 119) (by decide +kernel), List.mem_of_getElem? (i := 640) (by decide +kernel), List.mem_of_getElem? (i := 641) (by decide +kernel)⟩
theorem lw_p6 : lw_okq (⟨"MakerStarts$Reader", "open", "(LMakerStarts$Type;)LMakerStarts$Member;"⟩, 3) := ⟨⟨by decide +kernel, by decide +kernel⟩, List.mem_of_getElem? (i := 119) (by decide +kernel), List.mem_of_getElem? (i := 648) (by decide +kernel), List.mem_of_getElem? (i := 649) (by decide +kernel)⟩
theorem lw_p7 : lw_okq (⟨"MakerStarts$Reader", "fieldMember", "(LMakerStarts$Member;)V"⟩, 3) := ⟨⟨by decide +kernel, by decide +kernel⟩, List.mem_of_getElem? (i := 119) (by decide +kernel), List.mem_of_getElem? (i := 770) (by decide +kernel), List.mem_of_getElem? (i := 771) (by decide +kernel)⟩
theorem lw_p8 : lw_okq (⟨"MakerStarts$Reader", "nameMember", "(LMakerStarts$Member;II)V"⟩, 3) := ⟨⟨by decide +kernel, by decide +kernel⟩, List.mem_of_getElem? (i := 119) (by decide +kernel), List.mem_of_getElem? (i := 774) (by decide +kernel), List.mem_of_getElem? (i := 775) (by decide +kernel)⟩
theorem lw_p9 : lw_okq (⟨"MakerStarts$Bodies", "term", "()V"⟩, 6) := ⟨⟨by decide +kernel, by decide +kernel⟩, List.mem_of_getElem? (i := 212) (by decide +kernel), List.mem_of_getElem? (i := 790) (by decide +kernel), List.mem_of_getElem? (i := 791) (by decide +kernel)⟩
theorem lw_p10 : lw_okq (⟨"MakerStarts$Bodies", "factor", "()V"⟩, 6) := ⟨⟨by decide +kernel, by decide +kernel⟩, List.mem_of_getElem? (i := 212) (by decide +kernel), List.mem_of_getElem? (i := 794) (by decide +kernel), List.mem_of_getElem? (i := 795) (by decide +kernel)⟩
theorem lw_p11 : lw_okq (⟨"MakerStarts$Bodies", "dot", "(LMakerStarts$Use;)V"⟩, 6) := ⟨⟨by decide +kernel, by decide +kernel⟩, List.mem_of_getElem? (i := 212) (by decide +kernel), List.mem_of_getElem? (i := 874) (by decide +kernel), List.mem_of_getElem? (i := 875) (by decide +kernel)⟩
theorem lw_p12 : lw_okq (⟨"MakerStarts$Bodies", "write", "(LMakerStarts$Use;)V"⟩, 6) := ⟨⟨by decide +kernel, by decide +kernel⟩, List.mem_of_getElem? (i := 212) (by decide +kernel), List.mem_of_getElem? (i := 878) (by decide +kernel), List.mem_of_getElem? (i := 879) (by decide +kernel)⟩
theorem lw_p13 : lw_okq (⟨"java/util/ArrayList", "add", "(Ljava/lang/Object;[Ljava/lang/Object;I)V"⟩, 3) := ⟨⟨by decide +kernel, by decide +kernel⟩, List.mem_of_getElem? (i := 49) (by decide +kernel), List.mem_of_getElem? (i := 886) (by decide +kernel), List.mem_of_getElem? (i := 887) (by decide +kernel)⟩
theorem lw_p14 : lw_okq (⟨"java/util/ArrayList", "grow", "()[Ljava/lang/Object;"⟩, 3) := ⟨⟨by decide +kernel, by decide +kernel⟩, List.mem_of_getElem? (i := 49) (by decide +kernel), List.mem_of_getElem? (i := 890) (by decide +kernel), List.mem_of_getElem? (i := 891) (by decide +kernel)⟩
theorem lw_p15 : lw_okq (⟨"java/util/ArrayList", "grow", "(I)[Ljava/lang/Object;"⟩, 3) := ⟨⟨by decide +kernel, by decide +kernel⟩, List.mem_of_getElem? (i := 49) (by decide +kernel), List.mem_of_getElem? (i := 894) (by decide +kernel), List.mem_of_getElem? (i := 895) (by decide +kernel)⟩
def lw_privs_1 : List (MethodName × Nat) := [(⟨"MakerStarts$Tokens", "goesOn", "(I)Z"⟩, 9), (⟨"MakerStarts$Tokens", "lengthen", "(I)V"⟩, 9), (⟨"MakerStarts$Tokens", "open", "(II)V"⟩, 9), (⟨"MakerStarts$Tokens", "findKeys", "()V"⟩, 9), (⟨"MakerStarts$Reader", "head", "()LMakerStarts$Type;"⟩, 3), (⟨"MakerStarts$Reader", "startsMember", "()Z"⟩, 3), (⟨"MakerStarts$Reader", "open", "(LMakerStarts$Type;)LMakerStarts$Member;"⟩, 3), (⟨"MakerStarts$Reader", "fieldMember", "(LMakerStarts$Member;)V"⟩, 3), (⟨"MakerStarts$Reader", "nameMember", "(LMakerStarts$Member;II)V"⟩, 3), (⟨"MakerStarts$Bodies", "term", "()V"⟩, 6), (⟨"MakerStarts$Bodies", "factor", "()V"⟩, 6), (⟨"MakerStarts$Bodies", "dot", "(LMakerStarts$Use;)V"⟩, 6), (⟨"MakerStarts$Bodies", "write", "(LMakerStarts$Use;)V"⟩, 6), (⟨"java/util/ArrayList", "add", "(Ljava/lang/Object;[Ljava/lang/Object;I)V"⟩, 3), (⟨"java/util/ArrayList", "grow", "()[Ljava/lang/Object;"⟩, 3), (⟨"java/util/ArrayList", "grow", "(I)[Ljava/lang/Object;"⟩, 3)]
theorem lw_r1 : ∀ q ∈ lw_privs_1, lw_okq q := List.forall_mem_cons.mpr ⟨lw_p0, List.forall_mem_cons.mpr ⟨lw_p1, List.forall_mem_cons.mpr ⟨lw_p2, List.forall_mem_cons.mpr ⟨lw_p3, List.forall_mem_cons.mpr ⟨lw_p4, List.forall_mem_cons.mpr ⟨lw_p5, List.forall_mem_cons.mpr ⟨lw_p6, List.forall_mem_cons.mpr ⟨lw_p7, List.forall_mem_cons.mpr ⟨lw_p8, List.forall_mem_cons.mpr ⟨lw_p9, List.forall_mem_cons.mpr ⟨lw_p10, List.forall_mem_cons.mpr ⟨lw_p11, List.forall_mem_cons.mpr ⟨lw_p12, List.forall_mem_cons.mpr ⟨lw_p13, List.forall_mem_cons.mpr ⟨lw_p14, List.forall_mem_cons.mpr ⟨lw_p15, fun _ h => absurd h List.not_mem_nil⟩⟩⟩⟩⟩⟩⟩⟩⟩⟩⟩⟩⟩⟩⟩⟩
theorem lw_p16 : lw_okq (⟨"MakerStarts$Bodies", "opens", "(I)Z"⟩, 6) := ⟨⟨by decide +kernel, by decide +kernel⟩, List.mem_of_getElem? (i := 212) (by decide +kernel), List.mem_of_getElem? (i := 940) (by decide +kernel), List.mem_of_getElem? (i := 941) (by decide +kernel)⟩
theorem lw_p17 : lw_okq (⟨"MakerStarts$Reader", "blockMember", "(LMakerStarts$Member;)V"⟩, 3) := ⟨⟨by decide +kernel, by decide +kernel⟩, List.mem_of_getElem? (i := 119) (by decide +kernel), List.mem_of_getElem? (i := 957) (by decide +kernel), List.mem_of_getElem? (i := 958) (by decide +kernel)⟩
theorem lw_p18 : lw_okq (⟨"MakerStarts$Bodies", "startsStatement", "()Z"⟩, 6) := ⟨⟨by decide +kernel, by decide +kernel⟩, List.mem_of_getElem? (i := 212) (by decide +kernel), List.mem_of_getElem? (i := 974) (by decide +kernel), List.mem_of_getElem? (i := 975) (by decide +kernel)⟩
theorem lw_p19 : lw_okq (⟨"MakerStarts$Bodies", "statement", "()V"⟩, 6) := ⟨⟨by decide +kernel, by decide +kernel⟩, List.mem_of_getElem? (i := 212) (by decide +kernel), List.mem_of_getElem? (i := 978) (by decide +kernel), List.mem_of_getElem? (i := 979) (by decide +kernel)⟩
theorem lw_p20 : lw_okq (⟨"MakerStarts$Bodies", "tryStatement", "()V"⟩, 6) := ⟨⟨by decide +kernel, by decide +kernel⟩, List.mem_of_getElem? (i := 212) (by decide +kernel), List.mem_of_getElem? (i := 982) (by decide +kernel), List.mem_of_getElem? (i := 983) (by decide +kernel)⟩
theorem lw_p21 : lw_okq (⟨"MakerStarts$Bodies", "catchPart", "(I)V"⟩, 6) := ⟨⟨by decide +kernel, by decide +kernel⟩, List.mem_of_getElem? (i := 212) (by decide +kernel), List.mem_of_getElem? (i := 987) (by decide +kernel), List.mem_of_getElem? (i := 988) (by decide +kernel)⟩
theorem lw_p22 : lw_okq (⟨"MakerStarts$Bodies", "ifStatement", "()V"⟩, 6) := ⟨⟨by decide +kernel, by decide +kernel⟩, List.mem_of_getElem? (i := 212) (by decide +kernel), List.mem_of_getElem? (i := 1000) (by decide +kernel), List.mem_of_getElem? (i := 1001) (by decide +kernel)⟩
theorem lw_p23 : lw_okq (⟨"MakerStarts$Bodies", "setStatement", "()V"⟩, 6) := ⟨⟨by decide +kernel, by decide +kernel⟩, List.mem_of_getElem? (i := 212) (by decide +kernel), List.mem_of_getElem? (i := 1004) (by decide +kernel), List.mem_of_getElem? (i := 1005) (by decide +kernel)⟩
theorem lw_p24 : lw_okq (⟨"MakerStarts$Bodies", "plainStatement", "()V"⟩, 6) := ⟨⟨by decide +kernel, by decide +kernel⟩, List.mem_of_getElem? (i := 212) (by decide +kernel), List.mem_of_getElem? (i := 1008) (by decide +kernel), List.mem_of_getElem? (i := 1009) (by decide +kernel)⟩
theorem lw_p25 : lw_okq (⟨"MakerStarts$Reader", "constMember", "(LMakerStarts$Member;)V"⟩, 3) := ⟨⟨by decide +kernel, by decide +kernel⟩, List.mem_of_getElem? (i := 119) (by decide +kernel), List.mem_of_getElem? (i := 1021) (by decide +kernel), List.mem_of_getElem? (i := 1022) (by decide +kernel)⟩
theorem lw_p26 : lw_okq (⟨"MakerStarts$Reader", "actMember", "(LMakerStarts$Member;)V"⟩, 3) := ⟨⟨by decide +kernel, by decide +kernel⟩, List.mem_of_getElem? (i := 119) (by decide +kernel), List.mem_of_getElem? (i := 1025) (by decide +kernel), List.mem_of_getElem? (i := 1026) (by decide +kernel)⟩
theorem lw_p27 : lw_okq (⟨"MakerStarts$Reader", "makerMember", "(LMakerStarts$Member;)V"⟩, 3) := ⟨⟨by decide +kernel, by decide +kernel⟩, List.mem_of_getElem? (i := 119) (by decide +kernel), List.mem_of_getElem? (i := 1029) (by decide +kernel), List.mem_of_getElem? (i := 1030) (by decide +kernel)⟩
theorem lw_p28 : lw_okq (⟨"MakerStarts$Reader", "parameters", "(LMakerStarts$Member;)V"⟩, 3) := ⟨⟨by decide +kernel, by decide +kernel⟩, List.mem_of_getElem? (i := 119) (by decide +kernel), List.mem_of_getElem? (i := 1033) (by decide +kernel), List.mem_of_getElem? (i := 1034) (by decide +kernel)⟩
theorem lw_p29 : lw_okq (⟨"MakerStarts$Reader", "failures", "(LMakerStarts$Member;)V"⟩, 3) := ⟨⟨by decide +kernel, by decide +kernel⟩, List.mem_of_getElem? (i := 119) (by decide +kernel), List.mem_of_getElem? (i := 1045) (by decide +kernel), List.mem_of_getElem? (i := 1046) (by decide +kernel)⟩
theorem lw_p30 : lw_okq (⟨"MakerStarts$Reader", "otherMaker", "(LMakerStarts$Member;)V"⟩, 3) := ⟨⟨by decide +kernel, by decide +kernel⟩, List.mem_of_getElem? (i := 119) (by decide +kernel), List.mem_of_getElem? (i := 1058) (by decide +kernel), List.mem_of_getElem? (i := 1059) (by decide +kernel)⟩
theorem lw_p31 : lw_okq (⟨"MakerStarts$Flow", "judgeMember", "(LMakerStarts$Member;)I"⟩, 4) := ⟨⟨by decide +kernel, by decide +kernel⟩, List.mem_of_getElem? (i := 247) (by decide +kernel), List.mem_of_getElem? (i := 1146) (by decide +kernel), List.mem_of_getElem? (i := 1147) (by decide +kernel)⟩
def lw_privs_2 : List (MethodName × Nat) := [(⟨"MakerStarts$Bodies", "opens", "(I)Z"⟩, 6), (⟨"MakerStarts$Reader", "blockMember", "(LMakerStarts$Member;)V"⟩, 3), (⟨"MakerStarts$Bodies", "startsStatement", "()Z"⟩, 6), (⟨"MakerStarts$Bodies", "statement", "()V"⟩, 6), (⟨"MakerStarts$Bodies", "tryStatement", "()V"⟩, 6), (⟨"MakerStarts$Bodies", "catchPart", "(I)V"⟩, 6), (⟨"MakerStarts$Bodies", "ifStatement", "()V"⟩, 6), (⟨"MakerStarts$Bodies", "setStatement", "()V"⟩, 6), (⟨"MakerStarts$Bodies", "plainStatement", "()V"⟩, 6), (⟨"MakerStarts$Reader", "constMember", "(LMakerStarts$Member;)V"⟩, 3), (⟨"MakerStarts$Reader", "actMember", "(LMakerStarts$Member;)V"⟩, 3), (⟨"MakerStarts$Reader", "makerMember", "(LMakerStarts$Member;)V"⟩, 3), (⟨"MakerStarts$Reader", "parameters", "(LMakerStarts$Member;)V"⟩, 3), (⟨"MakerStarts$Reader", "failures", "(LMakerStarts$Member;)V"⟩, 3), (⟨"MakerStarts$Reader", "otherMaker", "(LMakerStarts$Member;)V"⟩, 3), (⟨"MakerStarts$Flow", "judgeMember", "(LMakerStarts$Member;)I"⟩, 4)]
theorem lw_r2 : ∀ q ∈ lw_privs_2, lw_okq q := List.forall_mem_cons.mpr ⟨lw_p16, List.forall_mem_cons.mpr ⟨lw_p17, List.forall_mem_cons.mpr ⟨lw_p18, List.forall_mem_cons.mpr ⟨lw_p19, List.forall_mem_cons.mpr ⟨lw_p20, List.forall_mem_cons.mpr ⟨lw_p21, List.forall_mem_cons.mpr ⟨lw_p22, List.forall_mem_cons.mpr ⟨lw_p23, List.forall_mem_cons.mpr ⟨lw_p24, List.forall_mem_cons.mpr ⟨lw_p25, List.forall_mem_cons.mpr ⟨lw_p26, List.forall_mem_cons.mpr ⟨lw_p27, List.forall_mem_cons.mpr ⟨lw_p28, List.forall_mem_cons.mpr ⟨lw_p29, List.forall_mem_cons.mpr ⟨lw_p30, List.forall_mem_cons.mpr ⟨lw_p31, fun _ h => absurd h List.not_mem_nil⟩⟩⟩⟩⟩⟩⟩⟩⟩⟩⟩⟩⟩⟩⟩⟩
theorem lw_p32 : lw_okq (⟨"MakerStarts$Flow", "follow", "(I)V"⟩, 4) := ⟨⟨by decide +kernel, by decide +kernel⟩, List.mem_of_getElem? (i := 247) (by decide +kernel), List.mem_of_getElem? (i := 1150) (by decide +kernel), List.mem_of_getElem? (i := 1151) (by decide +kernel)⟩
theorem lw_p33 : lw_okq (⟨"MakerStarts$Flow", "close", "(I)V"⟩, 4) := ⟨⟨by decide +kernel, by decide +kernel⟩, List.mem_of_getElem? (i := 247) (by decide +kernel), List.mem_of_getElem? (i := 1158) (by decide +kernel), List.mem_of_getElem? (i := 1159) (by decide +kernel)⟩
theorem lw_p34 : lw_okq (⟨"MakerStarts$Flow", "meet", "(III)V"⟩, 4) := ⟨⟨by decide +kernel, by decide +kernel⟩, List.mem_of_getElem? (i := 247) (by decide +kernel), List.mem_of_getElem? (i := 1162) (by decide +kernel), List.mem_of_getElem? (i := 1163) (by decide +kernel)⟩
theorem lw_p35 : lw_okq (⟨"MakerStarts$Flow", "judgeMaker", "(LMakerStarts$Member;I)V"⟩, 4) := ⟨⟨by decide +kernel, by decide +kernel⟩, List.mem_of_getElem? (i := 247) (by decide +kernel), List.mem_of_getElem? (i := 1174) (by decide +kernel), List.mem_of_getElem? (i := 1175) (by decide +kernel)⟩
theorem lw_p36 : lw_okq (⟨"MakerStarts$Text", "orderMembers", "(LMakerStarts$Type;Z)V"⟩, 9) := ⟨⟨by decide +kernel, by decide +kernel⟩, List.mem_of_getElem? (i := 41) (by decide +kernel), List.mem_of_getElem? (i := 1203) (by decide +kernel), List.mem_of_getElem? (i := 1204) (by decide +kernel)⟩
theorem lw_p37 : lw_okq (⟨"MakerStarts$Text", "orderMaker", "(LMakerStarts$Type;LMakerStarts$Member;)V"⟩, 9) := ⟨⟨by decide +kernel, by decide +kernel⟩, List.mem_of_getElem? (i := 41) (by decide +kernel), List.mem_of_getElem? (i := 1210) (by decide +kernel), List.mem_of_getElem? (i := 1211) (by decide +kernel)⟩
theorem lw_p38 : lw_okq (⟨"MakerStarts$Machine", "clear", "()V"⟩, 20) := ⟨⟨by decide +kernel, by decide +kernel⟩, List.mem_of_getElem? (i := 267) (by decide +kernel), List.mem_of_getElem? (i := 1226) (by decide +kernel), List.mem_of_getElem? (i := 1227) (by decide +kernel)⟩
theorem lw_p39 : lw_okq (⟨"MakerStarts$Machine", "go", "(I)V"⟩, 20) := ⟨⟨by decide +kernel, by decide +kernel⟩, List.mem_of_getElem? (i := 267) (by decide +kernel), List.mem_of_getElem? (i := 1234) (by decide +kernel), List.mem_of_getElem? (i := 1235) (by decide +kernel)⟩
theorem lw_p40 : lw_okq (⟨"MakerStarts$Machine", "turn", "()V"⟩, 20) := ⟨⟨by decide +kernel, by decide +kernel⟩, List.mem_of_getElem? (i := 267) (by decide +kernel), List.mem_of_getElem? (i := 1239) (by decide +kernel), List.mem_of_getElem? (i := 1240) (by decide +kernel)⟩
theorem lw_p41 : lw_okq (⟨"MakerStarts$Machine", "next", "()I"⟩, 20) := ⟨⟨by decide +kernel, by decide +kernel⟩, List.mem_of_getElem? (i := 267) (by decide +kernel), List.mem_of_getElem? (i := 1243) (by decide +kernel), List.mem_of_getElem? (i := 1244) (by decide +kernel)⟩
theorem lw_p42 : lw_okq (⟨"MakerStarts$Machine", "push", "(I)V"⟩, 20) := ⟨⟨by decide +kernel, by decide +kernel⟩, List.mem_of_getElem? (i := 267) (by decide +kernel), List.mem_of_getElem? (i := 1251) (by decide +kernel), List.mem_of_getElem? (i := 1252) (by decide +kernel)⟩
theorem lw_p43 : lw_okq (⟨"MakerStarts$Machine", "pop", "()I"⟩, 20) := ⟨⟨by decide +kernel, by decide +kernel⟩, List.mem_of_getElem? (i := 267) (by decide +kernel), List.mem_of_getElem? (i := 1255) (by decide +kernel), List.mem_of_getElem? (i := 1256) (by decide +kernel)⟩
theorem lw_p44 : lw_okq (⟨"MakerStarts$Machine", "compute", "(I)V"⟩, 20) := ⟨⟨by decide +kernel, by decide +kernel⟩, List.mem_of_getElem? (i := 267) (by decide +kernel), List.mem_of_getElem? (i := 1259) (by decide +kernel), List.mem_of_getElem? (i := 1260) (by decide +kernel)⟩
theorem lw_p45 : lw_okq (⟨"MakerStarts$Machine", "divide", "(III)V"⟩, 20) := ⟨⟨by decide +kernel, by decide +kernel⟩, List.mem_of_getElem? (i := 267) (by decide +kernel), List.mem_of_getElem? (i := 1263) (by decide +kernel), List.mem_of_getElem? (i := 1264) (by decide +kernel)⟩
theorem lw_p46 : lw_okq (⟨"MakerStarts$Machine", "leaveWith", "(II)V"⟩, 20) := ⟨⟨by decide +kernel, by decide +kernel⟩, List.mem_of_getElem? (i := 267) (by decide +kernel), List.mem_of_getElem? (i := 1267) (by decide +kernel), List.mem_of_getElem? (i := 1268) (by decide +kernel)⟩
theorem lw_p47 : lw_okq (⟨"MakerStarts$Machine", "get", "(II)V"⟩, 20) := ⟨⟨by decide +kernel, by decide +kernel⟩, List.mem_of_getElem? (i := 267) (by decide +kernel), List.mem_of_getElem? (i := 1271) (by decide +kernel), List.mem_of_getElem? (i := 1272) (by decide +kernel)⟩
def lw_privs_3 : List (MethodName × Nat) := [(⟨"MakerStarts$Flow", "follow", "(I)V"⟩, 4), (⟨"MakerStarts$Flow", "close", "(I)V"⟩, 4), (⟨"MakerStarts$Flow", "meet", "(III)V"⟩, 4), (⟨"MakerStarts$Flow", "judgeMaker", "(LMakerStarts$Member;I)V"⟩, 4), (⟨"MakerStarts$Text", "orderMembers", "(LMakerStarts$Type;Z)V"⟩, 9), (⟨"MakerStarts$Text", "orderMaker", "(LMakerStarts$Type;LMakerStarts$Member;)V"⟩, 9), (⟨"MakerStarts$Machine", "clear", "()V"⟩, 20), (⟨"MakerStarts$Machine", "go", "(I)V"⟩, 20), (⟨"MakerStarts$Machine", "turn", "()V"⟩, 20), (⟨"MakerStarts$Machine", "next", "()I"⟩, 20), (⟨"MakerStarts$Machine", "push", "(I)V"⟩, 20), (⟨"MakerStarts$Machine", "pop", "()I"⟩, 20), (⟨"MakerStarts$Machine", "compute", "(I)V"⟩, 20), (⟨"MakerStarts$Machine", "divide", "(III)V"⟩, 20), (⟨"MakerStarts$Machine", "leaveWith", "(II)V"⟩, 20), (⟨"MakerStarts$Machine", "get", "(II)V"⟩, 20)]
theorem lw_r3 : ∀ q ∈ lw_privs_3, lw_okq q := List.forall_mem_cons.mpr ⟨lw_p32, List.forall_mem_cons.mpr ⟨lw_p33, List.forall_mem_cons.mpr ⟨lw_p34, List.forall_mem_cons.mpr ⟨lw_p35, List.forall_mem_cons.mpr ⟨lw_p36, List.forall_mem_cons.mpr ⟨lw_p37, List.forall_mem_cons.mpr ⟨lw_p38, List.forall_mem_cons.mpr ⟨lw_p39, List.forall_mem_cons.mpr ⟨lw_p40, List.forall_mem_cons.mpr ⟨lw_p41, List.forall_mem_cons.mpr ⟨lw_p42, List.forall_mem_cons.mpr ⟨lw_p43, List.forall_mem_cons.mpr ⟨lw_p44, List.forall_mem_cons.mpr ⟨lw_p45, List.forall_mem_cons.mpr ⟨lw_p46, List.forall_mem_cons.mpr ⟨lw_p47, fun _ h => absurd h List.not_mem_nil⟩⟩⟩⟩⟩⟩⟩⟩⟩⟩⟩⟩⟩⟩⟩⟩
theorem lw_p48 : lw_okq (⟨"MakerStarts$Machine", "isReady", "(I)Z"⟩, 20) := ⟨⟨by decide +kernel, by decide +kernel⟩, List.mem_of_getElem? (i := 267) (by decide +kernel), List.mem_of_getElem? (i := 1275) (by decide +kernel), List.mem_of_getElem? (i := 1276) (by decide +kernel)⟩
theorem lw_p49 : lw_okq (⟨"MakerStarts$Machine", "enter", "(III)V"⟩, 20) := ⟨⟨by decide +kernel, by decide +kernel⟩, List.mem_of_getElem? (i := 267) (by decide +kernel), List.mem_of_getElem? (i := 1280) (by decide +kernel), List.mem_of_getElem? (i := 1281) (by decide +kernel)⟩
theorem lw_p50 : lw_okq (⟨"MakerStarts$Machine", "spend", "()V"⟩, 20) := ⟨⟨by decide +kernel, by decide +kernel⟩, List.mem_of_getElem? (i := 267) (by decide +kernel), List.mem_of_getElem? (i := 1284) (by decide +kernel), List.mem_of_getElem? (i := 1285) (by decide +kernel)⟩
theorem lw_p51 : lw_okq (⟨"MakerStarts$Machine", "set", "(II)V"⟩, 20) := ⟨⟨by decide +kernel, by decide +kernel⟩, List.mem_of_getElem? (i := 267) (by decide +kernel), List.mem_of_getElem? (i := 1288) (by decide +kernel), List.mem_of_getElem? (i := 1289) (by decide +kernel)⟩
theorem lw_p52 : lw_okq (⟨"MakerStarts$Machine", "callAct", "(I)V"⟩, 20) := ⟨⟨by decide +kernel, by decide +kernel⟩, List.mem_of_getElem? (i := 267) (by decide +kernel), List.mem_of_getElem? (i := 1292) (by decide +kernel), List.mem_of_getElem? (i := 1293) (by decide +kernel)⟩
theorem lw_p53 : lw_okq (⟨"MakerStarts$Machine", "countStep", "()V"⟩, 20) := ⟨⟨by decide +kernel, by decide +kernel⟩, List.mem_of_getElem? (i := 267) (by decide +kernel), List.mem_of_getElem? (i := 1297) (by decide +kernel), List.mem_of_getElem? (i := 1298) (by decide +kernel)⟩
theorem lw_p54 : lw_okq (⟨"MakerStarts$Machine", "callNew", "(I)V"⟩, 20) := ⟨⟨by decide +kernel, by decide +kernel⟩, List.mem_of_getElem? (i := 267) (by decide +kernel), List.mem_of_getElem? (i := 1301) (by decide +kernel), List.mem_of_getElem? (i := 1302) (by decide +kernel)⟩
theorem lw_p55 : lw_okq (⟨"MakerStarts$Machine", "callMaker", "(LMakerStarts$Member;LMakerStarts$Frame;)V"⟩, 20) := ⟨⟨by decide +kernel, by decide +kernel⟩, List.mem_of_getElem? (i := 267) (by decide +kernel), List.mem_of_getElem? (i := 1309) (by decide +kernel), List.mem_of_getElem? (i := 1310) (by decide +kernel)⟩
theorem lw_p56 : lw_okq (⟨"MakerStarts$Machine", "steer", "(I)V"⟩, 20) := ⟨⟨by decide +kernel, by decide +kernel⟩, List.mem_of_getElem? (i := 267) (by decide +kernel), List.mem_of_getElem? (i := 1313) (by decide +kernel), List.mem_of_getElem? (i := 1314) (by decide +kernel)⟩
theorem lw_p57 : lw_okq (⟨"MakerStarts$Machine", "keepMark", "(I)V"⟩, 20) := ⟨⟨by decide +kernel, by decide +kernel⟩, List.mem_of_getElem? (i := 267) (by decide +kernel), List.mem_of_getElem? (i := 1317) (by decide +kernel), List.mem_of_getElem? (i := 1318) (by decide +kernel)⟩
theorem lw_p58 : lw_okq (⟨"MakerStarts$Machine", "test", "(I)V"⟩, 20) := ⟨⟨by decide +kernel, by decide +kernel⟩, List.mem_of_getElem? (i := 267) (by decide +kernel), List.mem_of_getElem? (i := 1321) (by decide +kernel), List.mem_of_getElem? (i := 1322) (by decide +kernel)⟩
theorem lw_p59 : lw_okq (⟨"MakerStarts$Machine", "endPart", "()V"⟩, 20) := ⟨⟨by decide +kernel, by decide +kernel⟩, List.mem_of_getElem? (i := 267) (by decide +kernel), List.mem_of_getElem? (i := 1329) (by decide +kernel), List.mem_of_getElem? (i := 1330) (by decide +kernel)⟩
theorem lw_p60 : lw_okq (⟨"MakerStarts$Machine", "goesToFinally", "()Z"⟩, 20) := ⟨⟨by decide +kernel, by decide +kernel⟩, List.mem_of_getElem? (i := 267) (by decide +kernel), List.mem_of_getElem? (i := 1333) (by decide +kernel), List.mem_of_getElem? (i := 1334) (by decide +kernel)⟩
theorem lw_p61 : lw_okq (⟨"MakerStarts$Machine", "done", "()V"⟩, 20) := ⟨⟨by decide +kernel, by decide +kernel⟩, List.mem_of_getElem? (i := 267) (by decide +kernel), List.mem_of_getElem? (i := 1361) (by decide +kernel), List.mem_of_getElem? (i := 1362) (by decide +kernel)⟩
theorem lw_p62 : lw_okq (⟨"MakerStarts$Machine", "settle", "(I)V"⟩, 20) := ⟨⟨by decide +kernel, by decide +kernel⟩, List.mem_of_getElem? (i := 267) (by decide +kernel), List.mem_of_getElem? (i := 1365) (by decide +kernel), List.mem_of_getElem? (i := 1366) (by decide +kernel)⟩
theorem lw_p63 : lw_okq (⟨"MakerStarts$Machine", "drop", "()V"⟩, 20) := ⟨⟨by decide +kernel, by decide +kernel⟩, List.mem_of_getElem? (i := 267) (by decide +kernel), List.mem_of_getElem? (i := 1369) (by decide +kernel), List.mem_of_getElem? (i := 1370) (by decide +kernel)⟩
def lw_privs_4 : List (MethodName × Nat) := [(⟨"MakerStarts$Machine", "isReady", "(I)Z"⟩, 20), (⟨"MakerStarts$Machine", "enter", "(III)V"⟩, 20), (⟨"MakerStarts$Machine", "spend", "()V"⟩, 20), (⟨"MakerStarts$Machine", "set", "(II)V"⟩, 20), (⟨"MakerStarts$Machine", "callAct", "(I)V"⟩, 20), (⟨"MakerStarts$Machine", "countStep", "()V"⟩, 20), (⟨"MakerStarts$Machine", "callNew", "(I)V"⟩, 20), (⟨"MakerStarts$Machine", "callMaker", "(LMakerStarts$Member;LMakerStarts$Frame;)V"⟩, 20), (⟨"MakerStarts$Machine", "steer", "(I)V"⟩, 20), (⟨"MakerStarts$Machine", "keepMark", "(I)V"⟩, 20), (⟨"MakerStarts$Machine", "test", "(I)V"⟩, 20), (⟨"MakerStarts$Machine", "endPart", "()V"⟩, 20), (⟨"MakerStarts$Machine", "goesToFinally", "()Z"⟩, 20), (⟨"MakerStarts$Machine", "done", "()V"⟩, 20), (⟨"MakerStarts$Machine", "settle", "(I)V"⟩, 20), (⟨"MakerStarts$Machine", "drop", "()V"⟩, 20)]
theorem lw_r4 : ∀ q ∈ lw_privs_4, lw_okq q := List.forall_mem_cons.mpr ⟨lw_p48, List.forall_mem_cons.mpr ⟨lw_p49, List.forall_mem_cons.mpr ⟨lw_p50, List.forall_mem_cons.mpr ⟨lw_p51, List.forall_mem_cons.mpr ⟨lw_p52, List.forall_mem_cons.mpr ⟨lw_p53, List.forall_mem_cons.mpr ⟨lw_p54, List.forall_mem_cons.mpr ⟨lw_p55, List.forall_mem_cons.mpr ⟨lw_p56, List.forall_mem_cons.mpr ⟨lw_p57, List.forall_mem_cons.mpr ⟨lw_p58, List.forall_mem_cons.mpr ⟨lw_p59, List.forall_mem_cons.mpr ⟨lw_p60, List.forall_mem_cons.mpr ⟨lw_p61, List.forall_mem_cons.mpr ⟨lw_p62, List.forall_mem_cons.mpr ⟨lw_p63, fun _ h => absurd h List.not_mem_nil⟩⟩⟩⟩⟩⟩⟩⟩⟩⟩⟩⟩⟩⟩⟩⟩
theorem lw_p64 : lw_okq (⟨"MakerStarts$Machine", "leaveTry", "()V"⟩, 20) := ⟨⟨by decide +kernel, by decide +kernel⟩, List.mem_of_getElem? (i := 267) (by decide +kernel), List.mem_of_getElem? (i := 1377) (by decide +kernel), List.mem_of_getElem? (i := 1378) (by decide +kernel)⟩
theorem lw_p65 : lw_okq (⟨"MakerStarts$Machine", "leaveFrame", "()V"⟩, 20) := ⟨⟨by decide +kernel, by decide +kernel⟩, List.mem_of_getElem? (i := 267) (by decide +kernel), List.mem_of_getElem? (i := 1385) (by decide +kernel), List.mem_of_getElem? (i := 1386) (by decide +kernel)⟩
theorem lw_p66 : lw_okq (⟨"java/lang/Throwable", "fillInStackTrace", "(I)Ljava/lang/Throwable;"⟩, 6) := ⟨⟨by decide +kernel, by decide +kernel⟩, List.mem_of_getElem? (i := 1472) (by decide +kernel), List.mem_of_getElem? (i := 1470) (by decide +kernel), List.mem_of_getElem? (i := 1471) (by decide +kernel)⟩
theorem lw_p67 : lw_okq (⟨"MakerStartsModel", "next", "()V"⟩, 74) := ⟨⟨by decide +kernel, by decide +kernel⟩, List.mem_of_getElem? (i := 1554) (by decide +kernel), List.mem_of_getElem? (i := 1815) (by decide +kernel), List.mem_of_getElem? (i := 1816) (by decide +kernel)⟩
theorem lw_p68 : lw_okq (⟨"MakerStartsModel", "isSmall", "(I)Z"⟩, 74) := ⟨⟨by decide +kernel, by decide +kernel⟩, List.mem_of_getElem? (i := 1554) (by decide +kernel), List.mem_of_getElem? (i := 1819) (by decide +kernel), List.mem_of_getElem? (i := 1820) (by decide +kernel)⟩
theorem lw_p69 : lw_okq (⟨"MakerStartsModel", "isDigit", "(I)Z"⟩, 74) := ⟨⟨by decide +kernel, by decide +kernel⟩, List.mem_of_getElem? (i := 1554) (by decide +kernel), List.mem_of_getElem? (i := 1823) (by decide +kernel), List.mem_of_getElem? (i := 1824) (by decide +kernel)⟩
theorem lw_p70 : lw_okq (⟨"MakerStartsModel", "word", "()V"⟩, 74) := ⟨⟨by decide +kernel, by decide +kernel⟩, List.mem_of_getElem? (i := 1554) (by decide +kernel), List.mem_of_getElem? (i := 1827) (by decide +kernel), List.mem_of_getElem? (i := 1828) (by decide +kernel)⟩
theorem lw_p71 : lw_okq (⟨"MakerStartsModel", "readType", "()V"⟩, 74) := ⟨⟨by decide +kernel, by decide +kernel⟩, List.mem_of_getElem? (i := 1554) (by decide +kernel), List.mem_of_getElem? (i := 1833) (by decide +kernel), List.mem_of_getElem? (i := 1834) (by decide +kernel)⟩
theorem lw_p72 : lw_okq (⟨"MakerStartsModel", "is", "(I)Z"⟩, 74) := ⟨⟨by decide +kernel, by decide +kernel⟩, List.mem_of_getElem? (i := 1554) (by decide +kernel), List.mem_of_getElem? (i := 1837) (by decide +kernel), List.mem_of_getElem? (i := 1838) (by decide +kernel)⟩
theorem lw_p73 : lw_okq (⟨"MakerStartsModel", "odd", "()V"⟩, 74) := ⟨⟨by decide +kernel, by decide +kernel⟩, List.mem_of_getElem? (i := 1554) (by decide +kernel), List.mem_of_getElem? (i := 1841) (by decide +kernel), List.mem_of_getElem? (i := 1842) (by decide +kernel)⟩
theorem lw_p74 : lw_okq (⟨"MakerStartsModel", "fail", "(II)V"⟩, 74) := ⟨⟨by decide +kernel, by decide +kernel⟩, List.mem_of_getElem? (i := 1554) (by decide +kernel), List.mem_of_getElem? (i := 1845) (by decide +kernel), List.mem_of_getElem? (i := 1846) (by decide +kernel)⟩
theorem lw_p75 : lw_okq (⟨"MakerStartsModel", "takeName", "()V"⟩, 74) := ⟨⟨by decide +kernel, by decide +kernel⟩, List.mem_of_getElem? (i := 1554) (by decide +kernel), List.mem_of_getElem? (i := 1849) (by decide +kernel), List.mem_of_getElem? (i := 1850) (by decide +kernel)⟩
theorem lw_p76 : lw_okq (⟨"MakerStartsModel", "take", "(I)V"⟩, 74) := ⟨⟨by decide +kernel, by decide +kernel⟩, List.mem_of_getElem? (i := 1554) (by decide +kernel), List.mem_of_getElem? (i := 1853) (by decide +kernel), List.mem_of_getElem? (i := 1854) (by decide +kernel)⟩
theorem lw_p77 : lw_okq (⟨"MakerStartsModel", "takes", "(I)Z"⟩, 74) := ⟨⟨by decide +kernel, by decide +kernel⟩, List.mem_of_getElem? (i := 1554) (by decide +kernel), List.mem_of_getElem? (i := 1857) (by decide +kernel), List.mem_of_getElem? (i := 1858) (by decide +kernel)⟩
theorem lw_p78 : lw_okq (⟨"MakerStartsModel", "readMember", "()V"⟩, 74) := ⟨⟨by decide +kernel, by decide +kernel⟩, List.mem_of_getElem? (i := 1554) (by decide +kernel), List.mem_of_getElem? (i := 1861) (by decide +kernel), List.mem_of_getElem? (i := 1862) (by decide +kernel)⟩
theorem lw_p79 : lw_okq (⟨"MakerStartsModel", "tellName", "()V"⟩, 74) := ⟨⟨by decide +kernel, by decide +kernel⟩, List.mem_of_getElem? (i := 1554) (by decide +kernel), List.mem_of_getElem? (i := 1865) (by decide +kernel), List.mem_of_getElem? (i := 1866) (by decide +kernel)⟩
def lw_privs_5 : List (MethodName × Nat) := [(⟨"MakerStarts$Machine", "leaveTry", "()V"⟩, 20), (⟨"MakerStarts$Machine", "leaveFrame", "()V"⟩, 20), (⟨"java/lang/Throwable", "fillInStackTrace", "(I)Ljava/lang/Throwable;"⟩, 6), (⟨"MakerStartsModel", "next", "()V"⟩, 74), (⟨"MakerStartsModel", "isSmall", "(I)Z"⟩, 74), (⟨"MakerStartsModel", "isDigit", "(I)Z"⟩, 74), (⟨"MakerStartsModel", "word", "()V"⟩, 74), (⟨"MakerStartsModel", "readType", "()V"⟩, 74), (⟨"MakerStartsModel", "is", "(I)Z"⟩, 74), (⟨"MakerStartsModel", "odd", "()V"⟩, 74), (⟨"MakerStartsModel", "fail", "(II)V"⟩, 74), (⟨"MakerStartsModel", "takeName", "()V"⟩, 74), (⟨"MakerStartsModel", "take", "(I)V"⟩, 74), (⟨"MakerStartsModel", "takes", "(I)Z"⟩, 74), (⟨"MakerStartsModel", "readMember", "()V"⟩, 74), (⟨"MakerStartsModel", "tellName", "()V"⟩, 74)]
theorem lw_r5 : ∀ q ∈ lw_privs_5, lw_okq q := List.forall_mem_cons.mpr ⟨lw_p64, List.forall_mem_cons.mpr ⟨lw_p65, List.forall_mem_cons.mpr ⟨lw_p66, List.forall_mem_cons.mpr ⟨lw_p67, List.forall_mem_cons.mpr ⟨lw_p68, List.forall_mem_cons.mpr ⟨lw_p69, List.forall_mem_cons.mpr ⟨lw_p70, List.forall_mem_cons.mpr ⟨lw_p71, List.forall_mem_cons.mpr ⟨lw_p72, List.forall_mem_cons.mpr ⟨lw_p73, List.forall_mem_cons.mpr ⟨lw_p74, List.forall_mem_cons.mpr ⟨lw_p75, List.forall_mem_cons.mpr ⟨lw_p76, List.forall_mem_cons.mpr ⟨lw_p77, List.forall_mem_cons.mpr ⟨lw_p78, List.forall_mem_cons.mpr ⟨lw_p79, fun _ h => absurd h List.not_mem_nil⟩⟩⟩⟩⟩⟩⟩⟩⟩⟩⟩⟩⟩⟩⟩⟩
theorem lw_p80 : lw_okq (⟨"MakerStartsModel", "exp", "()I"⟩, 74) := ⟨⟨by decide +kernel, by decide +kernel⟩, List.mem_of_getElem? (i := 1554) (by decide +kernel), List.mem_of_getElem? (i := 1869) (by decide +kernel), List.mem_of_getElem? (i := 1870) (by decide +kernel)⟩
theorem lw_p81 : lw_okq (⟨"MakerStartsModel", "term", "()I"⟩, 74) := ⟨⟨by decide +kernel, by decide +kernel⟩, List.mem_of_getElem? (i := 1554) (by decide +kernel), List.mem_of_getElem? (i := 1873) (by decide +kernel), List.mem_of_getElem? (i := 1874) (by decide +kernel)⟩
theorem lw_p82 : lw_okq (⟨"MakerStartsModel", "factor", "()I"⟩, 74) := ⟨⟨by decide +kernel, by decide +kernel⟩, List.mem_of_getElem? (i := 1554) (by decide +kernel), List.mem_of_getElem? (i := 1877) (by decide +kernel), List.mem_of_getElem? (i := 1878) (by decide +kernel)⟩
theorem lw_p83 : lw_okq (⟨"MakerStartsModel", "node", "(II)I"⟩, 74) := ⟨⟨by decide +kernel, by decide +kernel⟩, List.mem_of_getElem? (i := 1554) (by decide +kernel), List.mem_of_getElem? (i := 1881) (by decide +kernel), List.mem_of_getElem? (i := 1882) (by decide +kernel)⟩
theorem lw_p84 : lw_okq (⟨"MakerStartsModel", "opens", "()V"⟩, 74) := ⟨⟨by decide +kernel, by decide +kernel⟩, List.mem_of_getElem? (i := 1554) (by decide +kernel), List.mem_of_getElem? (i := 1885) (by decide +kernel), List.mem_of_getElem? (i := 1886) (by decide +kernel)⟩
theorem lw_p85 : lw_okq (⟨"MakerStartsModel", "readMaker", "()V"⟩, 74) := ⟨⟨by decide +kernel, by decide +kernel⟩, List.mem_of_getElem? (i := 1554) (by decide +kernel), List.mem_of_getElem? (i := 1889) (by decide +kernel), List.mem_of_getElem? (i := 1890) (by decide +kernel)⟩
theorem lw_p86 : lw_okq (⟨"MakerStartsModel", "later", "(II)V"⟩, 74) := ⟨⟨by decide +kernel, by decide +kernel⟩, List.mem_of_getElem? (i := 1554) (by decide +kernel), List.mem_of_getElem? (i := 1893) (by decide +kernel), List.mem_of_getElem? (i := 1894) (by decide +kernel)⟩
theorem lw_p87 : lw_okq (⟨"MakerStartsModel", "number", "(I)I"⟩, 74) := ⟨⟨by decide +kernel, by decide +kernel⟩, List.mem_of_getElem? (i := 1554) (by decide +kernel), List.mem_of_getElem? (i := 1897) (by decide +kernel), List.mem_of_getElem? (i := 1898) (by decide +kernel)⟩
theorem lw_p88 : lw_okq (⟨"MakerStartsModel", "list", "()I"⟩, 74) := ⟨⟨by decide +kernel, by decide +kernel⟩, List.mem_of_getElem? (i := 1554) (by decide +kernel), List.mem_of_getElem? (i := 1902) (by decide +kernel), List.mem_of_getElem? (i := 1903) (by decide +kernel)⟩
theorem lw_p89 : lw_okq (⟨"MakerStartsModel", "body", "()I"⟩, 74) := ⟨⟨by decide +kernel, by decide +kernel⟩, List.mem_of_getElem? (i := 1554) (by decide +kernel), List.mem_of_getElem? (i := 1906) (by decide +kernel), List.mem_of_getElem? (i := 1907) (by decide +kernel)⟩
theorem lw_p90 : lw_okq (⟨"MakerStartsModel", "statement", "()I"⟩, 74) := ⟨⟨by decide +kernel, by decide +kernel⟩, List.mem_of_getElem? (i := 1554) (by decide +kernel), List.mem_of_getElem? (i := 1910) (by decide +kernel), List.mem_of_getElem? (i := 1911) (by decide +kernel)⟩
theorem lw_p91 : lw_okq (⟨"MakerStartsModel", "readTry", "(I)V"⟩, 74) := ⟨⟨by decide +kernel, by decide +kernel⟩, List.mem_of_getElem? (i := 1554) (by decide +kernel), List.mem_of_getElem? (i := 1914) (by decide +kernel), List.mem_of_getElem? (i := 1915) (by decide +kernel)⟩
theorem lw_p92 : lw_okq (⟨"MakerStartsModel", "judge", "()V"⟩, 74) := ⟨⟨by decide +kernel, by decide +kernel⟩, List.mem_of_getElem? (i := 1554) (by decide +kernel), List.mem_of_getElem? (i := 1918) (by decide +kernel), List.mem_of_getElem? (i := 1919) (by decide +kernel)⟩
theorem lw_p93 : lw_okq (⟨"MakerStartsModel", "typeNamed", "(JI)I"⟩, 74) := ⟨⟨by decide +kernel, by decide +kernel⟩, List.mem_of_getElem? (i := 1554) (by decide +kernel), List.mem_of_getElem? (i := 1922) (by decide +kernel), List.mem_of_getElem? (i := 1923) (by decide +kernel)⟩
theorem lw_p94 : lw_okq (⟨"MakerStartsModel", "judgeTold", "(I)V"⟩, 74) := ⟨⟨by decide +kernel, by decide +kernel⟩, List.mem_of_getElem? (i := 1554) (by decide +kernel), List.mem_of_getElem? (i := 1926) (by decide +kernel), List.mem_of_getElem? (i := 1927) (by decide +kernel)⟩
theorem lw_p95 : lw_okq (⟨"MakerStartsModel", "judgeNames", "(I)V"⟩, 74) := ⟨⟨by decide +kernel, by decide +kernel⟩, List.mem_of_getElem? (i := 1554) (by decide +kernel), List.mem_of_getElem? (i := 1930) (by decide +kernel), List.mem_of_getElem? (i := 1931) (by decide +kernel)⟩
def lw_privs_6 : List (MethodName × Nat) := [(⟨"MakerStartsModel", "exp", "()I"⟩, 74), (⟨"MakerStartsModel", "term", "()I"⟩, 74), (⟨"MakerStartsModel", "factor", "()I"⟩, 74), (⟨"MakerStartsModel", "node", "(II)I"⟩, 74), (⟨"MakerStartsModel", "opens", "()V"⟩, 74), (⟨"MakerStartsModel", "readMaker", "()V"⟩, 74), (⟨"MakerStartsModel", "later", "(II)V"⟩, 74), (⟨"MakerStartsModel", "number", "(I)I"⟩, 74), (⟨"MakerStartsModel", "list", "()I"⟩, 74), (⟨"MakerStartsModel", "body", "()I"⟩, 74), (⟨"MakerStartsModel", "statement", "()I"⟩, 74), (⟨"MakerStartsModel", "readTry", "(I)V"⟩, 74), (⟨"MakerStartsModel", "judge", "()V"⟩, 74), (⟨"MakerStartsModel", "typeNamed", "(JI)I"⟩, 74), (⟨"MakerStartsModel", "judgeTold", "(I)V"⟩, 74), (⟨"MakerStartsModel", "judgeNames", "(I)V"⟩, 74)]
theorem lw_r6 : ∀ q ∈ lw_privs_6, lw_okq q := List.forall_mem_cons.mpr ⟨lw_p80, List.forall_mem_cons.mpr ⟨lw_p81, List.forall_mem_cons.mpr ⟨lw_p82, List.forall_mem_cons.mpr ⟨lw_p83, List.forall_mem_cons.mpr ⟨lw_p84, List.forall_mem_cons.mpr ⟨lw_p85, List.forall_mem_cons.mpr ⟨lw_p86, List.forall_mem_cons.mpr ⟨lw_p87, List.forall_mem_cons.mpr ⟨lw_p88, List.forall_mem_cons.mpr ⟨lw_p89, List.forall_mem_cons.mpr ⟨lw_p90, List.forall_mem_cons.mpr ⟨lw_p91, List.forall_mem_cons.mpr ⟨lw_p92, List.forall_mem_cons.mpr ⟨lw_p93, List.forall_mem_cons.mpr ⟨lw_p94, List.forall_mem_cons.mpr ⟨lw_p95, fun _ h => absurd h List.not_mem_nil⟩⟩⟩⟩⟩⟩⟩⟩⟩⟩⟩⟩⟩⟩⟩⟩
theorem lw_p96 : lw_okq (⟨"MakerStartsModel", "judgeExp", "(I)V"⟩, 74) := ⟨⟨by decide +kernel, by decide +kernel⟩, List.mem_of_getElem? (i := 1554) (by decide +kernel), List.mem_of_getElem? (i := 1934) (by decide +kernel), List.mem_of_getElem? (i := 1935) (by decide +kernel)⟩
theorem lw_p97 : lw_okq (⟨"MakerStartsModel", "judgeName", "(IZ)V"⟩, 74) := ⟨⟨by decide +kernel, by decide +kernel⟩, List.mem_of_getElem? (i := 1554) (by decide +kernel), List.mem_of_getElem? (i := 1938) (by decide +kernel), List.mem_of_getElem? (i := 1939) (by decide +kernel)⟩
theorem lw_p98 : lw_okq (⟨"MakerStartsModel", "paramOf", "(IJ)I"⟩, 74) := ⟨⟨by decide +kernel, by decide +kernel⟩, List.mem_of_getElem? (i := 1554) (by decide +kernel), List.mem_of_getElem? (i := 1942) (by decide +kernel), List.mem_of_getElem? (i := 1943) (by decide +kernel)⟩
theorem lw_p99 : lw_okq (⟨"MakerStartsModel", "meant", "(IJZ)I"⟩, 74) := ⟨⟨by decide +kernel, by decide +kernel⟩, List.mem_of_getElem? (i := 1554) (by decide +kernel), List.mem_of_getElem? (i := 1946) (by decide +kernel), List.mem_of_getElem? (i := 1947) (by decide +kernel)⟩
theorem lw_p100 : lw_okq (⟨"MakerStartsModel", "actOf", "(IJ)I"⟩, 74) := ⟨⟨by decide +kernel, by decide +kernel⟩, List.mem_of_getElem? (i := 1554) (by decide +kernel), List.mem_of_getElem? (i := 1950) (by decide +kernel), List.mem_of_getElem? (i := 1951) (by decide +kernel)⟩
theorem lw_p101 : lw_okq (⟨"MakerStartsModel", "judgeOf", "(IZ)V"⟩, 74) := ⟨⟨by decide +kernel, by decide +kernel⟩, List.mem_of_getElem? (i := 1554) (by decide +kernel), List.mem_of_getElem? (i := 1954) (by decide +kernel), List.mem_of_getElem? (i := 1955) (by decide +kernel)⟩
theorem lw_p102 : lw_okq (⟨"MakerStartsModel", "judgeList", "(I)V"⟩, 74) := ⟨⟨by decide +kernel, by decide +kernel⟩, List.mem_of_getElem? (i := 1554) (by decide +kernel), List.mem_of_getElem? (i := 1958) (by decide +kernel), List.mem_of_getElem? (i := 1959) (by decide +kernel)⟩
theorem lw_p103 : lw_okq (⟨"MakerStartsModel", "judgeLead", "(I)V"⟩, 74) := ⟨⟨by decide +kernel, by decide +kernel⟩, List.mem_of_getElem? (i := 1554) (by decide +kernel), List.mem_of_getElem? (i := 1962) (by decide +kernel), List.mem_of_getElem? (i := 1963) (by decide +kernel)⟩
theorem lw_p104 : lw_okq (⟨"MakerStartsModel", "makerOf", "(II)I"⟩, 74) := ⟨⟨by decide +kernel, by decide +kernel⟩, List.mem_of_getElem? (i := 1554) (by decide +kernel), List.mem_of_getElem? (i := 1966) (by decide +kernel), List.mem_of_getElem? (i := 1967) (by decide +kernel)⟩
theorem lw_p105 : lw_okq (⟨"MakerStartsModel", "hasMakers", "(I)Z"⟩, 74) := ⟨⟨by decide +kernel, by decide +kernel⟩, List.mem_of_getElem? (i := 1554) (by decide +kernel), List.mem_of_getElem? (i := 1970) (by decide +kernel), List.mem_of_getElem? (i := 1971) (by decide +kernel)⟩
theorem lw_p106 : lw_okq (⟨"MakerStartsModel", "judgeBody", "(I)V"⟩, 74) := ⟨⟨by decide +kernel, by decide +kernel⟩, List.mem_of_getElem? (i := 1554) (by decide +kernel), List.mem_of_getElem? (i := 1974) (by decide +kernel), List.mem_of_getElem? (i := 1975) (by decide +kernel)⟩
theorem lw_p107 : lw_okq (⟨"MakerStartsModel", "judgeStatement", "(I)V"⟩, 74) := ⟨⟨by decide +kernel, by decide +kernel⟩, List.mem_of_getElem? (i := 1554) (by decide +kernel), List.mem_of_getElem? (i := 1978) (by decide +kernel), List.mem_of_getElem? (i := 1979) (by decide +kernel)⟩
theorem lw_p108 : lw_okq (⟨"MakerStartsModel", "judgeOut", "(I)V"⟩, 74) := ⟨⟨by decide +kernel, by decide +kernel⟩, List.mem_of_getElem? (i := 1554) (by decide +kernel), List.mem_of_getElem? (i := 1982) (by decide +kernel), List.mem_of_getElem? (i := 1983) (by decide +kernel)⟩
theorem lw_p109 : lw_okq (⟨"MakerStartsModel", "judgeCatches", "(I)V"⟩, 74) := ⟨⟨by decide +kernel, by decide +kernel⟩, List.mem_of_getElem? (i := 1554) (by decide +kernel), List.mem_of_getElem? (i := 1986) (by decide +kernel), List.mem_of_getElem? (i := 1987) (by decide +kernel)⟩
theorem lw_p110 : lw_okq (⟨"MakerStartsModel", "outBody", "(I)I"⟩, 74) := ⟨⟨by decide +kernel, by decide +kernel⟩, List.mem_of_getElem? (i := 1554) (by decide +kernel), List.mem_of_getElem? (i := 1990) (by decide +kernel), List.mem_of_getElem? (i := 1991) (by decide +kernel)⟩
theorem lw_p111 : lw_okq (⟨"MakerStartsModel", "outOf", "(I)I"⟩, 74) := ⟨⟨by decide +kernel, by decide +kernel⟩, List.mem_of_getElem? (i := 1554) (by decide +kernel), List.mem_of_getElem? (i := 1994) (by decide +kernel), List.mem_of_getElem? (i := 1995) (by decide +kernel)⟩
def lw_privs_7 : List (MethodName × Nat) := [(⟨"MakerStartsModel", "judgeExp", "(I)V"⟩, 74), (⟨"MakerStartsModel", "judgeName", "(IZ)V"⟩, 74), (⟨"MakerStartsModel", "paramOf", "(IJ)I"⟩, 74), (⟨"MakerStartsModel", "meant", "(IJZ)I"⟩, 74), (⟨"MakerStartsModel", "actOf", "(IJ)I"⟩, 74), (⟨"MakerStartsModel", "judgeOf", "(IZ)V"⟩, 74), (⟨"MakerStartsModel", "judgeList", "(I)V"⟩, 74), (⟨"MakerStartsModel", "judgeLead", "(I)V"⟩, 74), (⟨"MakerStartsModel", "makerOf", "(II)I"⟩, 74), (⟨"MakerStartsModel", "hasMakers", "(I)Z"⟩, 74), (⟨"MakerStartsModel", "judgeBody", "(I)V"⟩, 74), (⟨"MakerStartsModel", "judgeStatement", "(I)V"⟩, 74), (⟨"MakerStartsModel", "judgeOut", "(I)V"⟩, 74), (⟨"MakerStartsModel", "judgeCatches", "(I)V"⟩, 74), (⟨"MakerStartsModel", "outBody", "(I)I"⟩, 74), (⟨"MakerStartsModel", "outOf", "(I)I"⟩, 74)]
theorem lw_r7 : ∀ q ∈ lw_privs_7, lw_okq q := List.forall_mem_cons.mpr ⟨lw_p96, List.forall_mem_cons.mpr ⟨lw_p97, List.forall_mem_cons.mpr ⟨lw_p98, List.forall_mem_cons.mpr ⟨lw_p99, List.forall_mem_cons.mpr ⟨lw_p100, List.forall_mem_cons.mpr ⟨lw_p101, List.forall_mem_cons.mpr ⟨lw_p102, List.forall_mem_cons.mpr ⟨lw_p103, List.forall_mem_cons.mpr ⟨lw_p104, List.forall_mem_cons.mpr ⟨lw_p105, List.forall_mem_cons.mpr ⟨lw_p106, List.forall_mem_cons.mpr ⟨lw_p107, List.forall_mem_cons.mpr ⟨lw_p108, List.forall_mem_cons.mpr ⟨lw_p109, List.forall_mem_cons.mpr ⟨lw_p110, List.forall_mem_cons.mpr ⟨lw_p111, fun _ h => absurd h List.not_mem_nil⟩⟩⟩⟩⟩⟩⟩⟩⟩⟩⟩⟩⟩⟩⟩⟩
theorem lw_p112 : lw_okq (⟨"MakerStartsModel", "endsBody", "(I)Z"⟩, 74) := ⟨⟨by decide +kernel, by decide +kernel⟩, List.mem_of_getElem? (i := 1554) (by decide +kernel), List.mem_of_getElem? (i := 1998) (by decide +kernel), List.mem_of_getElem? (i := 1999) (by decide +kernel)⟩
theorem lw_p113 : lw_okq (⟨"MakerStartsModel", "ends", "(I)Z"⟩, 74) := ⟨⟨by decide +kernel, by decide +kernel⟩, List.mem_of_getElem? (i := 1554) (by decide +kernel), List.mem_of_getElem? (i := 2002) (by decide +kernel), List.mem_of_getElem? (i := 2003) (by decide +kernel)⟩
theorem lw_p114 : lw_okq (⟨"MakerStartsModel", "outOfMaker", "(I)I"⟩, 74) := ⟨⟨by decide +kernel, by decide +kernel⟩, List.mem_of_getElem? (i := 1554) (by decide +kernel), List.mem_of_getElem? (i := 2006) (by decide +kernel), List.mem_of_getElem? (i := 2007) (by decide +kernel)⟩
theorem lw_p115 : lw_okq (⟨"MakerStartsModel", "toldBy", "(I)I"⟩, 74) := ⟨⟨by decide +kernel, by decide +kernel⟩, List.mem_of_getElem? (i := 1554) (by decide +kernel), List.mem_of_getElem? (i := 2010) (by decide +kernel), List.mem_of_getElem? (i := 2011) (by decide +kernel)⟩
theorem lw_p116 : lw_okq (⟨"MakerStartsModel", "outOfBlocks", "(I)I"⟩, 74) := ⟨⟨by decide +kernel, by decide +kernel⟩, List.mem_of_getElem? (i := 1554) (by decide +kernel), List.mem_of_getElem? (i := 2014) (by decide +kernel), List.mem_of_getElem? (i := 2015) (by decide +kernel)⟩
theorem lw_p117 : lw_okq (⟨"MakerStartsModel", "judgeRing", "(I)V"⟩, 74) := ⟨⟨by decide +kernel, by decide +kernel⟩, List.mem_of_getElem? (i := 1554) (by decide +kernel), List.mem_of_getElem? (i := 2018) (by decide +kernel), List.mem_of_getElem? (i := 2019) (by decide +kernel)⟩
theorem lw_p118 : lw_okq (⟨"MakerStartsModel", "outOfType", "(I)I"⟩, 74) := ⟨⟨by decide +kernel, by decide +kernel⟩, List.mem_of_getElem? (i := 1554) (by decide +kernel), List.mem_of_getElem? (i := 2022) (by decide +kernel), List.mem_of_getElem? (i := 2023) (by decide +kernel)⟩
theorem lw_p119 : lw_okq (⟨"MakerStartsModel", "holdConstants", "()V"⟩, 74) := ⟨⟨by decide +kernel, by decide +kernel⟩, List.mem_of_getElem? (i := 1554) (by decide +kernel), List.mem_of_getElem? (i := 2026) (by decide +kernel), List.mem_of_getElem? (i := 2027) (by decide +kernel)⟩
theorem lw_p120 : lw_okq (⟨"MakerStartsModel", "constant", "(I)I"⟩, 74) := ⟨⟨by decide +kernel, by decide +kernel⟩, List.mem_of_getElem? (i := 1554) (by decide +kernel), List.mem_of_getElem? (i := 2030) (by decide +kernel), List.mem_of_getElem? (i := 2031) (by decide +kernel)⟩
theorem lw_p121 : lw_okq (⟨"MakerStartsModel", "fresh", "()V"⟩, 74) := ⟨⟨by decide +kernel, by decide +kernel⟩, List.mem_of_getElem? (i := 1554) (by decide +kernel), List.mem_of_getElem? (i := 2041) (by decide +kernel), List.mem_of_getElem? (i := 2042) (by decide +kernel)⟩
theorem lw_p122 : lw_okq (⟨"MakerStartsModel", "makes", "(IIIII)I"⟩, 74) := ⟨⟨by decide +kernel, by decide +kernel⟩, List.mem_of_getElem? (i := 1554) (by decide +kernel), List.mem_of_getElem? (i := 2045) (by decide +kernel), List.mem_of_getElem? (i := 2046) (by decide +kernel)⟩
theorem lw_p123 : lw_okq (⟨"MakerStartsModel", "steps", "()Z"⟩, 74) := ⟨⟨by decide +kernel, by decide +kernel⟩, List.mem_of_getElem? (i := 1554) (by decide +kernel), List.mem_of_getElem? (i := 2049) (by decide +kernel), List.mem_of_getElem? (i := 2050) (by decide +kernel)⟩
theorem lw_p124 : lw_okq (⟨"MakerStartsModel", "begin", "(I)V"⟩, 74) := ⟨⟨by decide +kernel, by decide +kernel⟩, List.mem_of_getElem? (i := 1554) (by decide +kernel), List.mem_of_getElem? (i := 2053) (by decide +kernel), List.mem_of_getElem? (i := 2054) (by decide +kernel)⟩
theorem lw_p125 : lw_okq (⟨"MakerStartsModel", "work", "(II)I"⟩, 74) := ⟨⟨by decide +kernel, by decide +kernel⟩, List.mem_of_getElem? (i := 1554) (by decide +kernel), List.mem_of_getElem? (i := 2057) (by decide +kernel), List.mem_of_getElem? (i := 2058) (by decide +kernel)⟩
theorem lw_p126 : lw_okq (⟨"MakerStartsModel", "get", "(I)I"⟩, 74) := ⟨⟨by decide +kernel, by decide +kernel⟩, List.mem_of_getElem? (i := 1554) (by decide +kernel), List.mem_of_getElem? (i := 2061) (by decide +kernel), List.mem_of_getElem? (i := 2062) (by decide +kernel)⟩
theorem lw_p127 : lw_okq (⟨"MakerStartsModel", "callAct", "(J)I"⟩, 74) := ⟨⟨by decide +kernel, by decide +kernel⟩, List.mem_of_getElem? (i := 1554) (by decide +kernel), List.mem_of_getElem? (i := 2065) (by decide +kernel), List.mem_of_getElem? (i := 2066) (by decide +kernel)⟩
def lw_privs_8 : List (MethodName × Nat) := [(⟨"MakerStartsModel", "endsBody", "(I)Z"⟩, 74), (⟨"MakerStartsModel", "ends", "(I)Z"⟩, 74), (⟨"MakerStartsModel", "outOfMaker", "(I)I"⟩, 74), (⟨"MakerStartsModel", "toldBy", "(I)I"⟩, 74), (⟨"MakerStartsModel", "outOfBlocks", "(I)I"⟩, 74), (⟨"MakerStartsModel", "judgeRing", "(I)V"⟩, 74), (⟨"MakerStartsModel", "outOfType", "(I)I"⟩, 74), (⟨"MakerStartsModel", "holdConstants", "()V"⟩, 74), (⟨"MakerStartsModel", "constant", "(I)I"⟩, 74), (⟨"MakerStartsModel", "fresh", "()V"⟩, 74), (⟨"MakerStartsModel", "makes", "(IIIII)I"⟩, 74), (⟨"MakerStartsModel", "steps", "()Z"⟩, 74), (⟨"MakerStartsModel", "begin", "(I)V"⟩, 74), (⟨"MakerStartsModel", "work", "(II)I"⟩, 74), (⟨"MakerStartsModel", "get", "(I)I"⟩, 74), (⟨"MakerStartsModel", "callAct", "(J)I"⟩, 74)]
theorem lw_r8 : ∀ q ∈ lw_privs_8, lw_okq q := List.forall_mem_cons.mpr ⟨lw_p112, List.forall_mem_cons.mpr ⟨lw_p113, List.forall_mem_cons.mpr ⟨lw_p114, List.forall_mem_cons.mpr ⟨lw_p115, List.forall_mem_cons.mpr ⟨lw_p116, List.forall_mem_cons.mpr ⟨lw_p117, List.forall_mem_cons.mpr ⟨lw_p118, List.forall_mem_cons.mpr ⟨lw_p119, List.forall_mem_cons.mpr ⟨lw_p120, List.forall_mem_cons.mpr ⟨lw_p121, List.forall_mem_cons.mpr ⟨lw_p122, List.forall_mem_cons.mpr ⟨lw_p123, List.forall_mem_cons.mpr ⟨lw_p124, List.forall_mem_cons.mpr ⟨lw_p125, List.forall_mem_cons.mpr ⟨lw_p126, List.forall_mem_cons.mpr ⟨lw_p127, fun _ h => absurd h List.not_mem_nil⟩⟩⟩⟩⟩⟩⟩⟩⟩⟩⟩⟩⟩⟩⟩⟩
theorem lw_p128 : lw_okq (⟨"MakerStartsModel", "runBody", "(II)I"⟩, 74) := ⟨⟨by decide +kernel, by decide +kernel⟩, List.mem_of_getElem? (i := 1554) (by decide +kernel), List.mem_of_getElem? (i := 2069) (by decide +kernel), List.mem_of_getElem? (i := 2070) (by decide +kernel)⟩
theorem lw_p129 : lw_okq (⟨"MakerStartsModel", "run", "(II)I"⟩, 74) := ⟨⟨by decide +kernel, by decide +kernel⟩, List.mem_of_getElem? (i := 1554) (by decide +kernel), List.mem_of_getElem? (i := 2073) (by decide +kernel), List.mem_of_getElem? (i := 2074) (by decide +kernel)⟩
theorem lw_p130 : lw_okq (⟨"MakerStartsModel", "set", "(II)V"⟩, 74) := ⟨⟨by decide +kernel, by decide +kernel⟩, List.mem_of_getElem? (i := 1554) (by decide +kernel), List.mem_of_getElem? (i := 2077) (by decide +kernel), List.mem_of_getElem? (i := 2078) (by decide +kernel)⟩
theorem lw_p131 : lw_okq (⟨"MakerStartsModel", "runTry", "(II)I"⟩, 74) := ⟨⟨by decide +kernel, by decide +kernel⟩, List.mem_of_getElem? (i := 1554) (by decide +kernel), List.mem_of_getElem? (i := 2081) (by decide +kernel), List.mem_of_getElem? (i := 2082) (by decide +kernel)⟩
theorem lw_p132 : lw_okq (⟨"MakerStartsModel", "runNew", "(II)I"⟩, 74) := ⟨⟨by decide +kernel, by decide +kernel⟩, List.mem_of_getElem? (i := 1554) (by decide +kernel), List.mem_of_getElem? (i := 2085) (by decide +kernel), List.mem_of_getElem? (i := 2086) (by decide +kernel)⟩
theorem lw_p133 : lw_okq (⟨"MakerStartsModel", "lead", "(IIII)V"⟩, 74) := ⟨⟨by decide +kernel, by decide +kernel⟩, List.mem_of_getElem? (i := 1554) (by decide +kernel), List.mem_of_getElem? (i := 2089) (by decide +kernel), List.mem_of_getElem? (i := 2090) (by decide +kernel)⟩
theorem lw_p134 : lw_okq (⟨"MakerStartsModel", "leadOn", "(III)V"⟩, 74) := ⟨⟨by decide +kernel, by decide +kernel⟩, List.mem_of_getElem? (i := 1554) (by decide +kernel), List.mem_of_getElem? (i := 2093) (by decide +kernel), List.mem_of_getElem? (i := 2094) (by decide +kernel)⟩
theorem lw_p135 : lw_okq (⟨"MakerStartsModel", "fill", "(II)V"⟩, 74) := ⟨⟨by decide +kernel, by decide +kernel⟩, List.mem_of_getElem? (i := 1554) (by decide +kernel), List.mem_of_getElem? (i := 2097) (by decide +kernel), List.mem_of_getElem? (i := 2098) (by decide +kernel)⟩
theorem lw_p136 : lw_okq (⟨"MakerStartsModel", "isBelow", "(II)Z"⟩, 74) := ⟨⟨by decide +kernel, by decide +kernel⟩, List.mem_of_getElem? (i := 1554) (by decide +kernel), List.mem_of_getElem? (i := 2125) (by decide +kernel), List.mem_of_getElem? (i := 2126) (by decide +kernel)⟩
def lw_privs_9 : List (MethodName × Nat) := [(⟨"MakerStartsModel", "runBody", "(II)I"⟩, 74), (⟨"MakerStartsModel", "run", "(II)I"⟩, 74), (⟨"MakerStartsModel", "set", "(II)V"⟩, 74), (⟨"MakerStartsModel", "runTry", "(II)I"⟩, 74), (⟨"MakerStartsModel", "runNew", "(II)I"⟩, 74), (⟨"MakerStartsModel", "lead", "(IIII)V"⟩, 74), (⟨"MakerStartsModel", "leadOn", "(III)V"⟩, 74), (⟨"MakerStartsModel", "fill", "(II)V"⟩, 74), (⟨"MakerStartsModel", "isBelow", "(II)Z"⟩, 74)]
theorem lw_r9 : ∀ q ∈ lw_privs_9, lw_okq q := List.forall_mem_cons.mpr ⟨lw_p128, List.forall_mem_cons.mpr ⟨lw_p129, List.forall_mem_cons.mpr ⟨lw_p130, List.forall_mem_cons.mpr ⟨lw_p131, List.forall_mem_cons.mpr ⟨lw_p132, List.forall_mem_cons.mpr ⟨lw_p133, List.forall_mem_cons.mpr ⟨lw_p134, List.forall_mem_cons.mpr ⟨lw_p135, List.forall_mem_cons.mpr ⟨lw_p136, fun _ h => absurd h List.not_mem_nil⟩⟩⟩⟩⟩⟩⟩⟩⟩
def lw_privs : List (MethodName × Nat) := lw_privs_1 ++ (lw_privs_2 ++ (lw_privs_3 ++ (lw_privs_4 ++ (lw_privs_5 ++ (lw_privs_6 ++ (lw_privs_7 ++ (lw_privs_8 ++ (lw_privs_9))))))))
def lw_tbl : List Cond := k2_sels lw_privs ++ tables_1
theorem lw_privs_ok : ∀ q ∈ lw_privs, lw_okq q := by
  show ∀ q ∈ lw_privs_1 ++ (lw_privs_2 ++ (lw_privs_3 ++ (lw_privs_4 ++ (lw_privs_5 ++ (lw_privs_6 ++ (lw_privs_7 ++ (lw_privs_8 ++ (lw_privs_9)))))))), lw_okq q
  exact List.forall_mem_append.mpr ⟨lw_r1, List.forall_mem_append.mpr ⟨lw_r2, List.forall_mem_append.mpr ⟨lw_r3, List.forall_mem_append.mpr ⟨lw_r4, List.forall_mem_append.mpr ⟨lw_r5, List.forall_mem_append.mpr ⟨lw_r6, List.forall_mem_append.mpr ⟨lw_r7, List.forall_mem_append.mpr ⟨lw_r8, lw_r9⟩⟩⟩⟩⟩⟩⟩⟩
end
section
/-! One list of words for every method: the good words of the tables. -/
def TB : List Cond := lw_tbl.filter goodWord
theorem inTB {w : Cond} (i : Nat) (h : lw_tbl[i]? = some w) (g : goodWord w = true) : w ∈ TB := List.mem_filter.mpr ⟨List.mem_of_getElem? h, g⟩
theorem goodTB {w : Cond} (h : w ∈ TB) : (w.onTables && w.keeps) = true ∨ ∃ ty, w = .arrayClass ty := good_of_word (List.mem_filter.mp h).2
theorem inTBs (ws : List Cond) (ps : List Nat) (hp : ws = ps.filterMap (fun i => lw_tbl[i]?)) (h : ws.all goodWord = true) : ∀ w ∈ ws, w ∈ TB := by
  intro w hw
  have h1 := List.all_eq_true.mp h w hw
  rw [hp] at hw
  obtain ⟨i, -, hi⟩ := List.mem_filterMap.mp hw
  exact inTB i hi h1
theorem gTB {w : Cond} (h : w ∈ TB) : GoodIn TB (w :: TB) := fun v hv => (List.mem_cons.mp hv).elim (fun e => by rw [e]; exact ⟨h, goodTB h⟩) (fun h' => ⟨h', goodTB h'⟩)
theorem gTBV {own C : String} {idx : Nat} {y : MethodName} {w : Cond} (h1 : Cond.methodLink own idx y ∈ TB) (h2 : Cond.instanceMethod y ∈ TB) (h3 : Cond.selects C y y ∈ TB) (h4 : Cond.initialized C ∈ TB) (h : w ∈ TB) : GoodIn TB (wsV own idx C y (w :: TB)) := by
  intro v hv
  rcases List.mem_append.mp hv with hv | hv
  · simp only [List.mem_cons, List.not_mem_nil, or_false] at hv
    rcases hv with rfl | rfl | rfl | rfl
    · exact ⟨h1, goodTB h1⟩
    · exact ⟨h2, goodTB h2⟩
    · exact ⟨h3, goodTB h3⟩
    · exact ⟨h4, goodTB h4⟩
  · exact gTB h v hv
theorem gTBS {own : String} {idx : Nat} {y : MethodName} {w : Cond} (h1 : Cond.methodLink own idx y ∈ TB) (h2 : Cond.static y ∈ TB) (h4 : Cond.initialized y.cls ∈ TB) (h : w ∈ TB) : GoodIn TB (va_wsS own idx y (w :: TB)) := by
  intro v hv
  rcases List.mem_append.mp hv with hv | hv
  · simp only [List.mem_cons, List.not_mem_nil, or_false] at hv
    rcases hv with rfl | rfl | rfl
    · exact ⟨h1, goodTB h1⟩
    · exact ⟨h2, goodTB h2⟩
    · exact ⟨h4, goodTB h4⟩
  · exact gTB h v hv
/-- two array classes of one type are one -/
theorem ty_same {D : va_G} {cl : List vw_C} {tys : List (ClassId × FieldType)} {U : State} (hK : va_K D cl tys U) (i j : Nat) {c1 c2 : ClassId} {ty : FieldType} (h1 : tys[i]? = some (c1, ty)) (h2 : tys[j]? = some (c2, ty)) : c2 = c1 := by
  have a := (hK.2 i _ h1).2
  have b := (hK.2 j _ h2).2
  cases ty <;> first | exact Option.some.inj (Eq.trans (Eq.symm b) a) | (obtain ⟨_, _, _, _, _, x⟩ := a; obtain ⟨_, _, _, _, _, y⟩ := b; exact Option.some.inj (y.symm.trans x))
theorem t_test0 : (Jvm.Cond.initialized "MakerStartsLaw") ∈ TB := inTB 137 (by decide +kernel) (by decide +kernel)
theorem t_test1 : (Jvm.Cond.methodLink "MakerStarts" (3 : Nat) ({ cls := "java/lang/Object", name := "<init>", desc := "()V" } : Jvm.MethodName)) ∈ TB := inTB 174 (by decide +kernel) (by decide +kernel)
end
section
/-! Names, out of the print of names: classes, fields, types, methods. -/
def RX0 : String := "MakerStarts$Bodies"
def TX0 : u_T := fun k => match k with
  | 0 => ("MakerStarts$Bodies", "tokens", "LMakerStarts$Tokens;", true)
  | 1 => ("MakerStarts$Bodies", "text", "LMakerStarts$Text;", false)
  | 2 => ("MakerStarts$Bodies", "member", "LMakerStarts$Member;", false)
  | 3 => ("MakerStarts$Bodies", "still", "Z", false)
  | 4 => ("MakerStarts$Bodies", "depth", "I", false)
  | _ => ("MakerStarts$Bodies", "statements", "I", false)
def tyX0 : Nat → FieldType := fun k => match k with
  | 0 => .object "MakerStarts$Tokens"
  | 1 => .object "MakerStarts$Text"
  | 2 => .object "MakerStarts$Member"
  | 3 => .boolean
  | 4 => .int
  | _ => .int
theorem nmX0 : ∀ a, a < 6 → ∀ b, b < 6 → a ≠ b → (TX0 a).2.1 ≠ (TX0 b).2.1 := by decide +kernel
theorem tyX0_ok : ∀ k, k < 6 → parseFieldDescriptor (TX0 k).2.2.1 = some (tyX0 k) := by decide +kernel
abbrev cX0_init : ByteArray := prog_2_method_1_code
def yX0_init : MethodName := ⟨RX0, "<init>", "(LMakerStarts$Tokens;)V"⟩
abbrev cX0_begin : ByteArray := prog_2_method_2_code
def yX0_begin : MethodName := ⟨RX0, "begin", "(LMakerStarts$Text;)V"⟩
abbrev cX0_enter : ByteArray := prog_2_method_3_code
def yX0_enter : MethodName := ⟨RX0, "enter", "(LMakerStarts$Member;Z)V"⟩
abbrev cX0_enterBody : ByteArray := prog_2_method_4_code
def yX0_enterBody : MethodName := ⟨RX0, "enterBody", "(LMakerStarts$Member;)V"⟩
abbrev cX0_number : ByteArray := prog_2_method_5_code
def yX0_number : MethodName := ⟨RX0, "number", "(I)I"⟩
abbrev cX0_opens : ByteArray := prog_2_method_6_code
def yX0_opens : MethodName := ⟨RX0, "opens", "(I)Z"⟩
abbrev cX0_body : ByteArray := prog_2_method_7_code
def yX0_body : MethodName := ⟨RX0, "body", "()V"⟩
abbrev cX0_startsStatement : ByteArray := prog_2_method_8_code
def yX0_startsStatement : MethodName := ⟨RX0, "startsStatement", "()Z"⟩
abbrev cX0_statement : ByteArray := prog_2_method_9_code
def yX0_statement : MethodName := ⟨RX0, "statement", "()V"⟩
abbrev cX0_plainStatement : ByteArray := prog_2_method_10_code
def yX0_plainStatement : MethodName := ⟨RX0, "plainStatement", "()V"⟩
abbrev cX0_setStatement : ByteArray := prog_2_method_11_code
def yX0_setStatement : MethodName := ⟨RX0, "setStatement", "()V"⟩
abbrev cX0_ifStatement : ByteArray := prog_2_method_12_code
def yX0_ifStatement : MethodName := ⟨RX0, "ifStatement", "()V"⟩
abbrev cX0_tryStatement : ByteArray := prog_2_method_13_code
def yX0_tryStatement : MethodName := ⟨RX0, "tryStatement", "()V"⟩
abbrev cX0_catchPart : ByteArray := prog_2_method_14_code
def yX0_catchPart : MethodName := ⟨RX0, "catchPart", "(I)V"⟩
abbrev cX0_exps : ByteArray := prog_2_method_15_code
def yX0_exps : MethodName := ⟨RX0, "exps", "()I"⟩
abbrev cX0_exp : ByteArray := prog_2_method_16_code
def yX0_exp : MethodName := ⟨RX0, "exp", "()V"⟩
abbrev cX0_term : ByteArray := prog_2_method_17_code
def yX0_term : MethodName := ⟨RX0, "term", "()V"⟩
abbrev cX0_termOp : ByteArray := prog_2_method_18_code
def yX0_termOp : MethodName := ⟨RX0, "termOp", "(I)I"⟩
abbrev cX0_factor : ByteArray := prog_2_method_19_code
def yX0_factor : MethodName := ⟨RX0, "factor", "()V"⟩
abbrev cX0_dot : ByteArray := prog_2_method_20_code
def yX0_dot : MethodName := ⟨RX0, "dot", "(LMakerStarts$Use;)V"⟩
abbrev cX0_write : ByteArray := prog_2_method_21_code
def yX0_write : MethodName := ⟨RX0, "write", "(LMakerStarts$Use;)V"⟩
def RX1 : String := "MakerStarts$Flow"
def TX1 : u_T := fun k => match k with
  | 0 => ("MakerStarts$Flow", "outs", "[I", true)
  | 1 => ("MakerStarts$Flow", "wells", "[Z", true)
  | 2 => ("MakerStarts$Flow", "top", "I", false)
  | _ => ("MakerStarts$Flow", "text", "LMakerStarts$Text;", false)
def tyX1 : Nat → FieldType := fun k => match k with
  | 0 => .array .int
  | 1 => .array .boolean
  | 2 => .int
  | _ => .object "MakerStarts$Text"
theorem nmX1 : ∀ a, a < 4 → ∀ b, b < 4 → a ≠ b → (TX1 a).2.1 ≠ (TX1 b).2.1 := by decide +kernel
theorem tyX1_ok : ∀ k, k < 4 → parseFieldDescriptor (TX1 k).2.2.1 = some (tyX1 k) := by decide +kernel
abbrev cX1_init : ByteArray := prog_3_method_1_code
def yX1_init : MethodName := ⟨RX1, "<init>", "()V"⟩
abbrev cX1_judge : ByteArray := prog_3_method_2_code
def yX1_judge : MethodName := ⟨RX1, "judge", "(LMakerStarts$Text;)V"⟩
abbrev cX1_judgeMember : ByteArray := prog_3_method_3_code
def yX1_judgeMember : MethodName := ⟨RX1, "judgeMember", "(LMakerStarts$Member;)I"⟩
abbrev cX1_judgeMaker : ByteArray := prog_3_method_4_code
def yX1_judgeMaker : MethodName := ⟨RX1, "judgeMaker", "(LMakerStarts$Member;I)V"⟩
abbrev cX1_follow : ByteArray := prog_3_method_5_code
def yX1_follow : MethodName := ⟨RX1, "follow", "(I)V"⟩
abbrev cX1_meet : ByteArray := prog_3_method_6_code
def yX1_meet : MethodName := ⟨RX1, "meet", "(III)V"⟩
abbrev cX1_close : ByteArray := prog_3_method_7_code
def yX1_close : MethodName := ⟨RX1, "close", "(I)V"⟩
def RX2 : String := "MakerStarts$Frame"
def TX2 : u_T := fun k => match k with
  | 0 => ("MakerStarts$Frame", "kind", "I", false)
  | 1 => ("MakerStarts$Frame", "type", "I", false)
  | 2 => ("MakerStarts$Frame", "back", "I", false)
  | 3 => ("MakerStarts$Frame", "link", "I", false)
  | 4 => ("MakerStarts$Frame", "base", "I", false)
  | 5 => ("MakerStarts$Frame", "own", "Z", false)
  | 6 => ("MakerStarts$Frame", "home", "LMakerStarts$Frame;", false)
  | 7 => ("MakerStarts$Frame", "madeType", "I", false)
  | 8 => ("MakerStarts$Frame", "madeFields", "[I", true)
  | 9 => ("MakerStarts$Frame", "parameters", "[I", true)
  | 10 => ("MakerStarts$Frame", "at", "[I", true)
  | 11 => ("MakerStarts$Frame", "phases", "[I", true)
  | 12 => ("MakerStarts$Frame", "waiting", "[I", true)
  | 13 => ("MakerStarts$Frame", "values", "[I", true)
  | _ => ("MakerStarts$Frame", "tries", "I", false)
def tyX2 : Nat → FieldType := fun k => match k with
  | 0 => .int
  | 1 => .int
  | 2 => .int
  | 3 => .int
  | 4 => .int
  | 5 => .boolean
  | 6 => .object "MakerStarts$Frame"
  | 7 => .int
  | 8 => .array .int
  | 9 => .array .int
  | 10 => .array .int
  | 11 => .array .int
  | 12 => .array .int
  | 13 => .array .int
  | _ => .int
theorem nmX2 : ∀ a, a < 15 → ∀ b, b < 15 → a ≠ b → (TX2 a).2.1 ≠ (TX2 b).2.1 := by decide +kernel
theorem tyX2_ok : ∀ k, k < 15 → parseFieldDescriptor (TX2 k).2.2.1 = some (tyX2 k) := by decide +kernel
abbrev cX2_init : ByteArray := prog_4_method_1_code
def yX2_init : MethodName := ⟨RX2, "<init>", "()V"⟩
abbrev cX2_clear : ByteArray := prog_4_method_2_code
def yX2_clear : MethodName := ⟨RX2, "clear", "()V"⟩
abbrev cX2_isTrying : ByteArray := prog_4_method_3_code
def yX2_isTrying : MethodName := ⟨RX2, "isTrying", "()Z"⟩
abbrev cX2_openTry : ByteArray := prog_4_method_4_code
def yX2_openTry : MethodName := ⟨RX2, "openTry", "(I)V"⟩
abbrev cX2_closeTry : ByteArray := prog_4_method_5_code
def yX2_closeTry : MethodName := ⟨RX2, "closeTry", "()V"⟩
abbrev cX2_tryCode : ByteArray := prog_4_method_6_code
def yX2_tryCode : MethodName := ⟨RX2, "tryCode", "()I"⟩
abbrev cX2_phase : ByteArray := prog_4_method_7_code
def yX2_phase : MethodName := ⟨RX2, "phase", "()I"⟩
abbrev cX2_toCatch : ByteArray := prog_4_method_8_code
def yX2_toCatch : MethodName := ⟨RX2, "toCatch", "()V"⟩
abbrev cX2_toFinally : ByteArray := prog_4_method_9_code
def yX2_toFinally : MethodName := ⟨RX2, "toFinally", "(II)V"⟩
abbrev cX2_waits : ByteArray := prog_4_method_10_code
def yX2_waits : MethodName := ⟨RX2, "waits", "()I"⟩
abbrev cX2_waitingValue : ByteArray := prog_4_method_11_code
def yX2_waitingValue : MethodName := ⟨RX2, "waitingValue", "()I"⟩
def RX3 : String := "MakerStarts$Judge"
abbrev cX3_judge : ByteArray := prog_5_method_2_code
def yX3_judge : MethodName := ⟨RX3, "judge", "(LMakerStarts$Text;)V"⟩
abbrev cX3_judgeUse : ByteArray := prog_5_method_3_code
def yX3_judgeUse : MethodName := ⟨RX3, "judgeUse", "(LMakerStarts$Text;LMakerStarts$Use;)V"⟩
abbrev cX3_judgeAlone : ByteArray := prog_5_method_4_code
def yX3_judgeAlone : MethodName := ⟨RX3, "judgeAlone", "(LMakerStarts$Text;LMakerStarts$Use;)V"⟩
abbrev cX3_judgeDotted : ByteArray := prog_5_method_5_code
def yX3_judgeDotted : MethodName := ⟨RX3, "judgeDotted", "(LMakerStarts$Text;LMakerStarts$Use;)V"⟩
abbrev cX3_isNoConstantAbove : ByteArray := prog_5_method_6_code
def yX3_isNoConstantAbove : MethodName := ⟨RX3, "isNoConstantAbove", "(LMakerStarts$Use;)Z"⟩
abbrev cX3_isTooEarly : ByteArray := prog_5_method_7_code
def yX3_isTooEarly : MethodName := ⟨RX3, "isTooEarly", "(LMakerStarts$Use;)Z"⟩
abbrev cX3_judgeCalled : ByteArray := prog_5_method_8_code
def yX3_judgeCalled : MethodName := ⟨RX3, "judgeCalled", "(LMakerStarts$Text;LMakerStarts$Use;)V"⟩
abbrev cX3_judgeNew : ByteArray := prog_5_method_9_code
def yX3_judgeNew : MethodName := ⟨RX3, "judgeNew", "(LMakerStarts$Text;LMakerStarts$Use;)V"⟩
abbrev cX3_judgeMaker : ByteArray := prog_5_method_10_code
def yX3_judgeMaker : MethodName := ⟨RX3, "judgeMaker", "(LMakerStarts$Text;LMakerStarts$Member;)V"⟩
abbrev cX3_judgeRing : ByteArray := prog_5_method_11_code
def yX3_judgeRing : MethodName := ⟨RX3, "judgeRing", "(LMakerStarts$Text;LMakerStarts$Member;)V"⟩
def RX4 : String := "MakerStarts$Machine"
def TX4 : u_T := fun k => match k with
  | 0 => ("MakerStarts$Machine", "text", "LMakerStarts$Text;", false)
  | 1 => ("MakerStarts$Machine", "values", "[I", true)
  | 2 => ("MakerStarts$Machine", "states", "[I", true)
  | 3 => ("MakerStarts$Machine", "marks", "[I", true)
  | 4 => ("MakerStarts$Machine", "markCount", "I", false)
  | 5 => ("MakerStarts$Machine", "made", "I", false)
  | 6 => ("MakerStarts$Machine", "steps", "I", false)
  | 7 => ("MakerStarts$Machine", "stack", "[I", true)
  | 8 => ("MakerStarts$Machine", "top", "I", false)
  | 9 => ("MakerStarts$Machine", "frames", "[LMakerStarts$Frame;", true)
  | 10 => ("MakerStarts$Machine", "depth", "I", false)
  | 11 => ("MakerStarts$Machine", "calls", "I", false)
  | 12 => ("MakerStarts$Machine", "pc", "I", false)
  | 13 => ("MakerStarts$Machine", "lowest", "LMakerStarts$Frame;", true)
  | 14 => ("MakerStarts$Machine", "now", "LMakerStarts$Frame;", false)
  | 15 => ("MakerStarts$Machine", "lenient", "Z", false)
  | 16 => ("MakerStarts$Machine", "leaving", "I", false)
  | 17 => ("MakerStarts$Machine", "leavingValue", "I", false)
  | 18 => ("MakerStarts$Machine", "over", "Z", false)
  | _ => ("MakerStarts$Machine", "answer", "I", false)
def tyX4 : Nat → FieldType := fun k => match k with
  | 0 => .object "MakerStarts$Text"
  | 1 => .array .int
  | 2 => .array .int
  | 3 => .array .int
  | 4 => .int
  | 5 => .int
  | 6 => .int
  | 7 => .array .int
  | 8 => .int
  | 9 => .array (.object "MakerStarts$Frame")
  | 10 => .int
  | 11 => .int
  | 12 => .int
  | 13 => .object "MakerStarts$Frame"
  | 14 => .object "MakerStarts$Frame"
  | 15 => .boolean
  | 16 => .int
  | 17 => .int
  | 18 => .boolean
  | _ => .int
theorem nmX4 : ∀ a, a < 20 → ∀ b, b < 20 → a ≠ b → (TX4 a).2.1 ≠ (TX4 b).2.1 := by decide +kernel
theorem tyX4_ok : ∀ k, k < 20 → parseFieldDescriptor (TX4 k).2.2.1 = some (tyX4 k) := by decide +kernel
abbrev cX4_init : ByteArray := prog_6_method_1_code
def yX4_init : MethodName := ⟨RX4, "<init>", "(LMakerStarts$Text;)V"⟩
abbrev cX4_stateOf : ByteArray := prog_6_method_2_code
def yX4_stateOf : MethodName := ⟨RX4, "stateOf", "(I)I"⟩
abbrev cX4_valueAt : ByteArray := prog_6_method_3_code
def yX4_valueAt : MethodName := ⟨RX4, "valueAt", "(I)I"⟩
abbrev cX4_latest : ByteArray := prog_6_method_4_code
def yX4_latest : MethodName := ⟨RX4, "latest", "()I"⟩
abbrev cX4_latestField : ByteArray := prog_6_method_5_code
def yX4_latestField : MethodName := ⟨RX4, "latestField", "(I)I"⟩
abbrev cX4_begin : ByteArray := prog_6_method_6_code
def yX4_begin : MethodName := ⟨RX4, "begin", "(LMakerStarts$Text;)V"⟩
abbrev cX4_build : ByteArray := prog_6_method_7_code
def yX4_build : MethodName := ⟨RX4, "build", "(LMakerStarts$Member;III)I"⟩
abbrev cX4_ask : ByteArray := prog_6_method_8_code
def yX4_ask : MethodName := ⟨RX4, "ask", "(LMakerStarts$Type;)I"⟩
abbrev cX4_clear : ByteArray := prog_6_method_9_code
def yX4_clear : MethodName := ⟨RX4, "clear", "()V"⟩
abbrev cX4_go : ByteArray := prog_6_method_10_code
def yX4_go : MethodName := ⟨RX4, "go", "(I)V"⟩
abbrev cX4_next : ByteArray := prog_6_method_11_code
def yX4_next : MethodName := ⟨RX4, "next", "()I"⟩
abbrev cX4_push : ByteArray := prog_6_method_12_code
def yX4_push : MethodName := ⟨RX4, "push", "(I)V"⟩
abbrev cX4_pop : ByteArray := prog_6_method_13_code
def yX4_pop : MethodName := ⟨RX4, "pop", "()I"⟩
abbrev cX4_turn : ByteArray := prog_6_method_14_code
def yX4_turn : MethodName := ⟨RX4, "turn", "()V"⟩
abbrev cX4_steer : ByteArray := prog_6_method_15_code
def yX4_steer : MethodName := ⟨RX4, "steer", "(I)V"⟩
abbrev cX4_compute : ByteArray := prog_6_method_16_code
def yX4_compute : MethodName := ⟨RX4, "compute", "(I)V"⟩
abbrev cX4_divide : ByteArray := prog_6_method_17_code
def yX4_divide : MethodName := ⟨RX4, "divide", "(III)V"⟩
abbrev cX4_get : ByteArray := prog_6_method_18_code
def yX4_get : MethodName := ⟨RX4, "get", "(II)V"⟩
abbrev cX4_set : ByteArray := prog_6_method_19_code
def yX4_set : MethodName := ⟨RX4, "set", "(II)V"⟩
abbrev cX4_isReady : ByteArray := prog_6_method_20_code
def yX4_isReady : MethodName := ⟨RX4, "isReady", "(I)Z"⟩
abbrev cX4_countStep : ByteArray := prog_6_method_21_code
def yX4_countStep : MethodName := ⟨RX4, "countStep", "()V"⟩
abbrev cX4_spend : ByteArray := prog_6_method_22_code
def yX4_spend : MethodName := ⟨RX4, "spend", "()V"⟩
abbrev cX4_keepMark : ByteArray := prog_6_method_23_code
def yX4_keepMark : MethodName := ⟨RX4, "keepMark", "(I)V"⟩
abbrev cX4_test : ByteArray := prog_6_method_24_code
def yX4_test : MethodName := ⟨RX4, "test", "(I)V"⟩
abbrev cX4_enter : ByteArray := prog_6_method_25_code
def yX4_enter : MethodName := ⟨RX4, "enter", "(III)V"⟩
abbrev cX4_drop : ByteArray := prog_6_method_26_code
def yX4_drop : MethodName := ⟨RX4, "drop", "()V"⟩
abbrev cX4_callAct : ByteArray := prog_6_method_27_code
def yX4_callAct : MethodName := ⟨RX4, "callAct", "(I)V"⟩
abbrev cX4_callNew : ByteArray := prog_6_method_28_code
def yX4_callNew : MethodName := ⟨RX4, "callNew", "(I)V"⟩
abbrev cX4_callMaker : ByteArray := prog_6_method_29_code
def yX4_callMaker : MethodName := ⟨RX4, "callMaker", "(LMakerStarts$Member;LMakerStarts$Frame;)V"⟩
abbrev cX4_done : ByteArray := prog_6_method_30_code
def yX4_done : MethodName := ⟨RX4, "done", "()V"⟩
abbrev cX4_settle : ByteArray := prog_6_method_31_code
def yX4_settle : MethodName := ⟨RX4, "settle", "(I)V"⟩
abbrev cX4_leaveWith : ByteArray := prog_6_method_32_code
def yX4_leaveWith : MethodName := ⟨RX4, "leaveWith", "(II)V"⟩
abbrev cX4_leaveTry : ByteArray := prog_6_method_33_code
def yX4_leaveTry : MethodName := ⟨RX4, "leaveTry", "()V"⟩
abbrev cX4_goesToFinally : ByteArray := prog_6_method_34_code
def yX4_goesToFinally : MethodName := ⟨RX4, "goesToFinally", "()Z"⟩
abbrev cX4_endPart : ByteArray := prog_6_method_35_code
def yX4_endPart : MethodName := ⟨RX4, "endPart", "()V"⟩
abbrev cX4_leaveFrame : ByteArray := prog_6_method_36_code
def yX4_leaveFrame : MethodName := ⟨RX4, "leaveFrame", "()V"⟩
def RX5 : String := "MakerStarts$Member"
def TX5 : u_T := fun k => match k with
  | 0 => ("MakerStarts$Member", "type", "LMakerStarts$Type;", true)
  | 1 => ("MakerStarts$Member", "index", "I", true)
  | 2 => ("MakerStarts$Member", "kind", "I", false)
  | 3 => ("MakerStarts$Member", "still", "Z", false)
  | 4 => ("MakerStarts$Member", "name", "J", false)
  | 5 => ("MakerStarts$Member", "place", "I", false)
  | 6 => ("MakerStarts$Member", "namePlace", "I", false)
  | 7 => ("MakerStarts$Member", "code", "I", false)
  | 8 => ("MakerStarts$Member", "head", "I", false)
  | 9 => ("MakerStarts$Member", "shape", "I", false)
  | 10 => ("MakerStarts$Member", "comes", "I", false)
  | 11 => ("MakerStarts$Member", "parameters", "[J", true)
  | 12 => ("MakerStarts$Member", "parameterCount", "I", false)
  | 13 => ("MakerStarts$Member", "tells", "I", false)
  | 14 => ("MakerStarts$Member", "callKind", "I", false)
  | 15 => ("MakerStarts$Member", "callPlace", "I", false)
  | 16 => ("MakerStarts$Member", "callCount", "I", false)
  | 17 => ("MakerStarts$Member", "target", "LMakerStarts$Member;", false)
  | 18 => ("MakerStarts$Member", "orders", "I", false)
  | _ => ("MakerStarts$Member", "entry", "I", false)
def tyX5 : Nat → FieldType := fun k => match k with
  | 0 => .object "MakerStarts$Type"
  | 1 => .int
  | 2 => .int
  | 3 => .boolean
  | 4 => .long
  | 5 => .int
  | 6 => .int
  | 7 => .int
  | 8 => .int
  | 9 => .int
  | 10 => .int
  | 11 => .array .long
  | 12 => .int
  | 13 => .int
  | 14 => .int
  | 15 => .int
  | 16 => .int
  | 17 => .object "MakerStarts$Member"
  | 18 => .int
  | _ => .int
theorem nmX5 : ∀ a, a < 20 → ∀ b, b < 20 → a ≠ b → (TX5 a).2.1 ≠ (TX5 b).2.1 := by decide +kernel
theorem tyX5_ok : ∀ k, k < 20 → parseFieldDescriptor (TX5 k).2.2.1 = some (tyX5 k) := by decide +kernel
abbrev cX5_init : ByteArray := prog_7_method_1_code
def yX5_init : MethodName := ⟨RX5, "<init>", "(LMakerStarts$Type;I)V"⟩
abbrev cX5_slot : ByteArray := prog_7_method_2_code
def yX5_slot : MethodName := ⟨RX5, "slot", "()I"⟩
abbrev cX5_number : ByteArray := prog_7_method_3_code
def yX5_number : MethodName := ⟨RX5, "number", "()I"⟩
abbrev cX5_isInitial : ByteArray := prog_7_method_4_code
def yX5_isInitial : MethodName := ⟨RX5, "isInitial", "()Z"⟩
abbrev cX5_isAbove : ByteArray := prog_7_method_5_code
def yX5_isAbove : MethodName := ⟨RX5, "isAbove", "(LMakerStarts$Member;)Z"⟩
abbrev cX5_addParameter : ByteArray := prog_7_method_6_code
def yX5_addParameter : MethodName := ⟨RX5, "addParameter", "(J)V"⟩
abbrev cX5_parameterNamed : ByteArray := prog_7_method_7_code
def yX5_parameterNamed : MethodName := ⟨RX5, "parameterNamed", "(J)I"⟩
def RX6 : String := "MakerStarts$Reader"
def TX6 : u_T := fun k => match k with
  | 0 => ("MakerStarts$Reader", "tokens", "LMakerStarts$Tokens;", true)
  | 1 => ("MakerStarts$Reader", "bodies", "LMakerStarts$Bodies;", true)
  | _ => ("MakerStarts$Reader", "text", "LMakerStarts$Text;", false)
def tyX6 : Nat → FieldType := fun k => match k with
  | 0 => .object "MakerStarts$Tokens"
  | 1 => .object "MakerStarts$Bodies"
  | _ => .object "MakerStarts$Text"
theorem nmX6 : ∀ a, a < 3 → ∀ b, b < 3 → a ≠ b → (TX6 a).2.1 ≠ (TX6 b).2.1 := by decide +kernel
theorem tyX6_ok : ∀ k, k < 3 → parseFieldDescriptor (TX6 k).2.2.1 = some (tyX6 k) := by decide +kernel
abbrev cX6_init : ByteArray := prog_8_method_1_code
def yX6_init : MethodName := ⟨RX6, "<init>", "()V"⟩
abbrev cX6_reads : ByteArray := prog_8_method_2_code
def yX6_reads : MethodName := ⟨RX6, "reads", "([BILMakerStarts$Text;)Z"⟩
abbrev cX6_head : ByteArray := prog_8_method_3_code
def yX6_head : MethodName := ⟨RX6, "head", "()LMakerStarts$Type;"⟩
abbrev cX6_silentMaker : ByteArray := prog_8_method_4_code
def yX6_silentMaker : MethodName := ⟨RX6, "silentMaker", "(LMakerStarts$Type;)LMakerStarts$Member;"⟩
abbrev cX6_startsMember : ByteArray := prog_8_method_5_code
def yX6_startsMember : MethodName := ⟨RX6, "startsMember", "()Z"⟩
abbrev cX6_open : ByteArray := prog_8_method_6_code
def yX6_open : MethodName := ⟨RX6, "open", "(LMakerStarts$Type;)LMakerStarts$Member;"⟩
abbrev cX6_nameMember : ByteArray := prog_8_method_7_code
def yX6_nameMember : MethodName := ⟨RX6, "nameMember", "(LMakerStarts$Member;II)V"⟩
abbrev cX6_fieldMember : ByteArray := prog_8_method_8_code
def yX6_fieldMember : MethodName := ⟨RX6, "fieldMember", "(LMakerStarts$Member;)V"⟩
abbrev cX6_constMember : ByteArray := prog_8_method_9_code
def yX6_constMember : MethodName := ⟨RX6, "constMember", "(LMakerStarts$Member;)V"⟩
abbrev cX6_blockMember : ByteArray := prog_8_method_10_code
def yX6_blockMember : MethodName := ⟨RX6, "blockMember", "(LMakerStarts$Member;)V"⟩
abbrev cX6_actMember : ByteArray := prog_8_method_11_code
def yX6_actMember : MethodName := ⟨RX6, "actMember", "(LMakerStarts$Member;)V"⟩
abbrev cX6_makerMember : ByteArray := prog_8_method_12_code
def yX6_makerMember : MethodName := ⟨RX6, "makerMember", "(LMakerStarts$Member;)V"⟩
abbrev cX6_parameters : ByteArray := prog_8_method_13_code
def yX6_parameters : MethodName := ⟨RX6, "parameters", "(LMakerStarts$Member;)V"⟩
abbrev cX6_failures : ByteArray := prog_8_method_14_code
def yX6_failures : MethodName := ⟨RX6, "failures", "(LMakerStarts$Member;)V"⟩
abbrev cX6_otherMaker : ByteArray := prog_8_method_15_code
def yX6_otherMaker : MethodName := ⟨RX6, "otherMaker", "(LMakerStarts$Member;)V"⟩
def RX7 : String := "MakerStarts$Text"
def TX7 : u_T := fun k => match k with
  | 0 => ("MakerStarts$Text", "types", "[LMakerStarts$Type;", true)
  | 1 => ("MakerStarts$Text", "count", "I", false)
  | 2 => ("MakerStarts$Text", "uses", "Ljava/util/ArrayList;", true)
  | 3 => ("MakerStarts$Text", "code", "[I", true)
  | 4 => ("MakerStarts$Text", "size", "I", false)
  | 5 => ("MakerStarts$Text", "shape", "[I", true)
  | 6 => ("MakerStarts$Text", "shapes", "I", false)
  | 7 => ("MakerStarts$Text", "fault", "I", false)
  | _ => ("MakerStarts$Text", "faultPlace", "I", false)
def tyX7 : Nat → FieldType := fun k => match k with
  | 0 => .array (.object "MakerStarts$Type")
  | 1 => .int
  | 2 => .object "java/util/ArrayList"
  | 3 => .array .int
  | 4 => .int
  | 5 => .array .int
  | 6 => .int
  | 7 => .int
  | _ => .int
theorem nmX7 : ∀ a, a < 9 → ∀ b, b < 9 → a ≠ b → (TX7 a).2.1 ≠ (TX7 b).2.1 := by decide +kernel
theorem tyX7_ok : ∀ k, k < 9 → parseFieldDescriptor (TX7 k).2.2.1 = some (tyX7 k) := by decide +kernel
abbrev cX7_init : ByteArray := prog_9_method_1_code
def yX7_init : MethodName := ⟨RX7, "<init>", "()V"⟩
abbrev cX7_clear : ByteArray := prog_9_method_2_code
def yX7_clear : MethodName := ⟨RX7, "clear", "()V"⟩
abbrev cX7_note : ByteArray := prog_9_method_3_code
def yX7_note : MethodName := ⟨RX7, "note", "(II)V"⟩
abbrev cX7_typeAt : ByteArray := prog_9_method_4_code
def yX7_typeAt : MethodName := ⟨RX7, "typeAt", "(I)LMakerStarts$Type;"⟩
abbrev cX7_typeNamed : ByteArray := prog_9_method_5_code
def yX7_typeNamed : MethodName := ⟨RX7, "typeNamed", "(J)LMakerStarts$Type;"⟩
abbrev cX7_add : ByteArray := prog_9_method_6_code
def yX7_add : MethodName := ⟨RX7, "add", "(LMakerStarts$Type;)V"⟩
abbrev cX7_useAt : ByteArray := prog_9_method_7_code
def yX7_useAt : MethodName := ⟨RX7, "useAt", "(I)LMakerStarts$Use;"⟩
abbrev cX7_memberAt : ByteArray := prog_9_method_8_code
def yX7_memberAt : MethodName := ⟨RX7, "memberAt", "(I)LMakerStarts$Member;"⟩
abbrev cX7_makerAt : ByteArray := prog_9_method_9_code
def yX7_makerAt : MethodName := ⟨RX7, "makerAt", "(I)LMakerStarts$Member;"⟩
abbrev cX7_codeAt : ByteArray := prog_9_method_10_code
def yX7_codeAt : MethodName := ⟨RX7, "codeAt", "(I)I"⟩
abbrev cX7_put : ByteArray := prog_9_method_11_code
def yX7_put : MethodName := ⟨RX7, "put", "(I)V"⟩
abbrev cX7_put_ : ByteArray := prog_9_method_12_code
def yX7_put_ : MethodName := ⟨RX7, "put", "(II)V"⟩
abbrev cX7_patch : ByteArray := prog_9_method_13_code
def yX7_patch : MethodName := ⟨RX7, "patch", "(II)V"⟩
abbrev cX7_form : ByteArray := prog_9_method_14_code
def yX7_form : MethodName := ⟨RX7, "form", "(III)V"⟩
abbrev cX7_shapeAt : ByteArray := prog_9_method_15_code
def yX7_shapeAt : MethodName := ⟨RX7, "shapeAt", "(I)I"⟩
abbrev cX7_link : ByteArray := prog_9_method_16_code
def yX7_link : MethodName := ⟨RX7, "link", "()V"⟩
abbrev cX7_order : ByteArray := prog_9_method_17_code
def yX7_order : MethodName := ⟨RX7, "order", "()V"⟩
abbrev cX7_orderMembers : ByteArray := prog_9_method_18_code
def yX7_orderMembers : MethodName := ⟨RX7, "orderMembers", "(LMakerStarts$Type;Z)V"⟩
abbrev cX7_orderMaker : ByteArray := prog_9_method_19_code
def yX7_orderMaker : MethodName := ⟨RX7, "orderMaker", "(LMakerStarts$Type;LMakerStarts$Member;)V"⟩
def RX8 : String := "MakerStarts$Tokens"
def TX8 : u_T := fun k => match k with
  | 0 => ("MakerStarts$Tokens", "kinds", "[I", true)
  | 1 => ("MakerStarts$Tokens", "places", "[I", true)
  | 2 => ("MakerStarts$Tokens", "words", "[J", true)
  | 3 => ("MakerStarts$Tokens", "keys", "[J", true)
  | 4 => ("MakerStarts$Tokens", "count", "I", false)
  | 5 => ("MakerStarts$Tokens", "length", "I", false)
  | 6 => ("MakerStarts$Tokens", "at", "I", false)
  | 7 => ("MakerStarts$Tokens", "fault", "I", false)
  | _ => ("MakerStarts$Tokens", "faultPlace", "I", false)
def tyX8 : Nat → FieldType := fun k => match k with
  | 0 => .array .int
  | 1 => .array .int
  | 2 => .array .long
  | 3 => .array .long
  | 4 => .int
  | 5 => .int
  | 6 => .int
  | 7 => .int
  | _ => .int
theorem nmX8 : ∀ a, a < 9 → ∀ b, b < 9 → a ≠ b → (TX8 a).2.1 ≠ (TX8 b).2.1 := by decide +kernel
theorem tyX8_ok : ∀ k, k < 9 → parseFieldDescriptor (TX8 k).2.2.1 = some (tyX8 k) := by decide +kernel
abbrev cX8_init : ByteArray := prog_10_method_1_code
def yX8_init : MethodName := ⟨RX8, "<init>", "()V"⟩
abbrev cX8_scan : ByteArray := prog_10_method_2_code
def yX8_scan : MethodName := ⟨RX8, "scan", "([BI)V"⟩
abbrev cX8_goesOn : ByteArray := prog_10_method_3_code
def yX8_goesOn : MethodName := ⟨RX8, "goesOn", "(I)Z"⟩
abbrev cX8_lengthen : ByteArray := prog_10_method_4_code
def yX8_lengthen : MethodName := ⟨RX8, "lengthen", "(I)V"⟩
abbrev cX8_open : ByteArray := prog_10_method_5_code
def yX8_open : MethodName := ⟨RX8, "open", "(II)V"⟩
abbrev cX8_findKeys : ByteArray := prog_10_method_6_code
def yX8_findKeys : MethodName := ⟨RX8, "findKeys", "()V"⟩
abbrev cX8_isDigit : ByteArray := prog_10_method_7_code
def yX8_isDigit : MethodName := ⟨RX8, "isDigit", "(I)Z"⟩
abbrev cX8_isLetter : ByteArray := prog_10_method_8_code
def yX8_isLetter : MethodName := ⟨RX8, "isLetter", "(I)Z"⟩
abbrev cX8_is : ByteArray := prog_10_method_9_code
def yX8_is : MethodName := ⟨RX8, "is", "(I)Z"⟩
abbrev cX8_take : ByteArray := prog_10_method_10_code
def yX8_take : MethodName := ⟨RX8, "take", "(I)Z"⟩
abbrev cX8_need : ByteArray := prog_10_method_11_code
def yX8_need : MethodName := ⟨RX8, "need", "(I)V"⟩
abbrev cX8_needWord : ByteArray := prog_10_method_12_code
def yX8_needWord : MethodName := ⟨RX8, "needWord", "(I)J"⟩
abbrev cX8_kind : ByteArray := prog_10_method_13_code
def yX8_kind : MethodName := ⟨RX8, "kind", "()I"⟩
abbrev cX8_spot : ByteArray := prog_10_method_14_code
def yX8_spot : MethodName := ⟨RX8, "spot", "()I"⟩
abbrev cX8_fail : ByteArray := prog_10_method_15_code
def yX8_fail : MethodName := ⟨RX8, "fail", "(I)V"⟩
def RX9 : String := "MakerStarts$Type"
def TX9 : u_T := fun k => match k with
  | 0 => ("MakerStarts$Type", "index", "I", true)
  | 1 => ("MakerStarts$Type", "name", "J", false)
  | 2 => ("MakerStarts$Type", "place", "I", false)
  | 3 => ("MakerStarts$Type", "parent", "LMakerStarts$Type;", false)
  | 4 => ("MakerStarts$Type", "members", "[LMakerStarts$Member;", true)
  | 5 => ("MakerStarts$Type", "count", "I", false)
  | 6 => ("MakerStarts$Type", "makers", "[LMakerStarts$Member;", true)
  | 7 => ("MakerStarts$Type", "makerCount", "I", false)
  | 8 => ("MakerStarts$Type", "fieldCount", "I", false)
  | 9 => ("MakerStarts$Type", "orders", "I", false)
  | _ => ("MakerStarts$Type", "entry", "I", false)
def tyX9 : Nat → FieldType := fun k => match k with
  | 0 => .int
  | 1 => .long
  | 2 => .int
  | 3 => .object "MakerStarts$Type"
  | 4 => .array (.object "MakerStarts$Member")
  | 5 => .int
  | 6 => .array (.object "MakerStarts$Member")
  | 7 => .int
  | 8 => .int
  | 9 => .int
  | _ => .int
theorem nmX9 : ∀ a, a < 11 → ∀ b, b < 11 → a ≠ b → (TX9 a).2.1 ≠ (TX9 b).2.1 := by decide +kernel
theorem tyX9_ok : ∀ k, k < 11 → parseFieldDescriptor (TX9 k).2.2.1 = some (tyX9 k) := by decide +kernel
abbrev cX9_init : ByteArray := prog_11_method_1_code
def yX9_init : MethodName := ⟨RX9, "<init>", "(I)V"⟩
abbrev cX9_add : ByteArray := prog_11_method_2_code
def yX9_add : MethodName := ⟨RX9, "add", "(LMakerStarts$Member;)V"⟩
abbrev cX9_memberAt : ByteArray := prog_11_method_3_code
def yX9_memberAt : MethodName := ⟨RX9, "memberAt", "(I)LMakerStarts$Member;"⟩
abbrev cX9_maker : ByteArray := prog_11_method_4_code
def yX9_maker : MethodName := ⟨RX9, "maker", "(I)LMakerStarts$Member;"⟩
abbrev cX9_setMaker : ByteArray := prog_11_method_5_code
def yX9_setMaker : MethodName := ⟨RX9, "setMaker", "(ILMakerStarts$Member;)V"⟩
abbrev cX9_own : ByteArray := prog_11_method_6_code
def yX9_own : MethodName := ⟨RX9, "own", "(JI)LMakerStarts$Member;"⟩
abbrev cX9_find : ByteArray := prog_11_method_7_code
def yX9_find : MethodName := ⟨RX9, "find", "(JI)LMakerStarts$Member;"⟩
abbrev cX9_isBelow : ByteArray := prog_11_method_8_code
def yX9_isBelow : MethodName := ⟨RX9, "isBelow", "(LMakerStarts$Type;)Z"⟩
def RX10 : String := "MakerStarts$Use"
def TX10 : u_T := fun k => match k with
  | 0 => ("MakerStarts$Use", "member", "LMakerStarts$Member;", true)
  | 1 => ("MakerStarts$Use", "still", "Z", true)
  | 2 => ("MakerStarts$Use", "kind", "I", false)
  | 3 => ("MakerStarts$Use", "ahead", "Z", false)
  | 4 => ("MakerStarts$Use", "place", "I", true)
  | 5 => ("MakerStarts$Use", "namePlace", "I", false)
  | 6 => ("MakerStarts$Use", "name", "J", false)
  | 7 => ("MakerStarts$Use", "owner", "J", false)
  | 8 => ("MakerStarts$Use", "count", "I", false)
  | 9 => ("MakerStarts$Use", "parameter", "I", false)
  | 10 => ("MakerStarts$Use", "means", "LMakerStarts$Member;", false)
  | _ => ("MakerStarts$Use", "at", "I", false)
def tyX10 : Nat → FieldType := fun k => match k with
  | 0 => .object "MakerStarts$Member"
  | 1 => .boolean
  | 2 => .int
  | 3 => .boolean
  | 4 => .int
  | 5 => .int
  | 6 => .long
  | 7 => .long
  | 8 => .int
  | 9 => .int
  | 10 => .object "MakerStarts$Member"
  | _ => .int
theorem nmX10 : ∀ a, a < 12 → ∀ b, b < 12 → a ≠ b → (TX10 a).2.1 ≠ (TX10 b).2.1 := by decide +kernel
theorem tyX10_ok : ∀ k, k < 12 → parseFieldDescriptor (TX10 k).2.2.1 = some (tyX10 k) := by decide +kernel
abbrev cX10_init : ByteArray := prog_12_method_1_code
def yX10_init : MethodName := ⟨RX10, "<init>", "(LMakerStarts$Member;ZIJ)V"⟩
abbrev cX10_op : ByteArray := prog_12_method_2_code
def yX10_op : MethodName := ⟨RX10, "op", "()I"⟩
abbrev cX10_operand : ByteArray := prog_12_method_3_code
def yX10_operand : MethodName := ⟨RX10, "operand", "()I"⟩
def RX11 : String := "MakerStarts"
def TX11 : u_T := fun k => match k with
  | 0 => ("MakerStarts", "tape", "[B", true)
  | 1 => ("MakerStarts", "bytes", "I", false)
  | 2 => ("MakerStarts", "faultPlace", "I", false)
  | 3 => ("MakerStarts", "text", "LMakerStarts$Text;", false)
  | 4 => ("MakerStarts", "spare", "LMakerStarts$Text;", false)
  | 5 => ("MakerStarts", "reader", "LMakerStarts$Reader;", true)
  | 6 => ("MakerStarts", "flow", "LMakerStarts$Flow;", true)
  | _ => ("MakerStarts", "machine", "LMakerStarts$Machine;", true)
def tyX11 : Nat → FieldType := fun k => match k with
  | 0 => .array .byte
  | 1 => .int
  | 2 => .int
  | 3 => .object "MakerStarts$Text"
  | 4 => .object "MakerStarts$Text"
  | 5 => .object "MakerStarts$Reader"
  | 6 => .object "MakerStarts$Flow"
  | _ => .object "MakerStarts$Machine"
theorem nmX11 : ∀ a, a < 8 → ∀ b, b < 8 → a ≠ b → (TX11 a).2.1 ≠ (TX11 b).2.1 := by decide +kernel
theorem tyX11_ok : ∀ k, k < 8 → parseFieldDescriptor (TX11 k).2.2.1 = some (tyX11 k) := by decide +kernel
abbrev cX11_init : ByteArray := prog_1_method_1_code
def yX11_init : MethodName := ⟨RX11, "<init>", "()V"⟩
abbrev cX11_feed : ByteArray := prog_1_method_2_code
def yX11_feed : MethodName := ⟨RX11, "feed", "(JI)I"⟩
abbrev cX11_read : ByteArray := prog_1_method_3_code
def yX11_read : MethodName := ⟨RX11, "read", "()I"⟩
abbrev cX11_place : ByteArray := prog_1_method_4_code
def yX11_place : MethodName := ⟨RX11, "place", "()I"⟩
abbrev cX11_told : ByteArray := prog_1_method_5_code
def yX11_told : MethodName := ⟨RX11, "told", "(I)I"⟩
abbrev cX11_type : ByteArray := prog_1_method_6_code
def yX11_type : MethodName := ⟨RX11, "type", "(II)I"⟩
abbrev cX11_make : ByteArray := prog_1_method_7_code
def yX11_make : MethodName := ⟨RX11, "make", "(IIIII)I"⟩
abbrev cX11_start : ByteArray := prog_1_method_8_code
def yX11_start : MethodName := ⟨RX11, "start", "(I)I"⟩
abbrev cX11_marked : ByteArray := prog_1_method_9_code
def yX11_marked : MethodName := ⟨RX11, "marked", "(I)I"⟩
abbrev cX11_field : ByteArray := prog_1_method_10_code
def yX11_field : MethodName := ⟨RX11, "field", "(II)I"⟩
abbrev cX11_held : ByteArray := prog_1_method_11_code
def yX11_held : MethodName := ⟨RX11, "held", "(II)I"⟩
abbrev cX11_fails : ByteArray := prog_1_method_12_code
def yX11_fails : MethodName := ⟨RX11, "fails", "(II)I"⟩
def RX12 : String := "MakerStartsModel"
def TX12 : u_T := fun k => match k with
  | 0 => ("MakerStartsModel", "code", "I", false)
  | 1 => ("MakerStartsModel", "tape", "[B", true)
  | 2 => ("MakerStartsModel", "size", "I", false)
  | 3 => ("MakerStartsModel", "latest", "I", false)
  | 4 => ("MakerStartsModel", "words", "[J", true)
  | 5 => ("MakerStartsModel", "at", "I", false)
  | 6 => ("MakerStartsModel", "token", "I", false)
  | 7 => ("MakerStartsModel", "where", "I", false)
  | 8 => ("MakerStartsModel", "value", "J", false)
  | 9 => ("MakerStartsModel", "fault", "I", false)
  | 10 => ("MakerStartsModel", "faultPlace", "I", false)
  | 11 => ("MakerStartsModel", "laterFault", "I", false)
  | 12 => ("MakerStartsModel", "laterPlace", "I", false)
  | 13 => ("MakerStartsModel", "name", "J", false)
  | 14 => ("MakerStartsModel", "namePlace", "I", false)
  | 15 => ("MakerStartsModel", "half", "I", false)
  | 16 => ("MakerStartsModel", "h", "I", false)
  | 17 => ("MakerStartsModel", "typeMany", "[I", true)
  | 18 => ("MakerStartsModel", "tName", "[J", true)
  | 19 => ("MakerStartsModel", "tPlace", "[I", true)
  | 20 => ("MakerStartsModel", "tUpName", "[J", true)
  | 21 => ("MakerStartsModel", "tUpPlace", "[I", true)
  | 22 => ("MakerStartsModel", "tUp", "[I", true)
  | 23 => ("MakerStartsModel", "tMembers", "[I", true)
  | 24 => ("MakerStartsModel", "mKind", "[I", true)
  | 25 => ("MakerStartsModel", "mName", "[J", true)
  | 26 => ("MakerStartsModel", "mPlace", "[I", true)
  | 27 => ("MakerStartsModel", "mFirst", "[I", true)
  | 28 => ("MakerStartsModel", "mExp", "[I", true)
  | 29 => ("MakerStartsModel", "mBody", "[I", true)
  | 30 => ("MakerStartsModel", "mParams", "[I", true)
  | 31 => ("MakerStartsModel", "mParam", "[J", true)
  | 32 => ("MakerStartsModel", "mFails", "[I", true)
  | 33 => ("MakerStartsModel", "mLead", "[I", true)
  | 34 => ("MakerStartsModel", "mLeadExp", "[I", true)
  | 35 => ("MakerStartsModel", "mLeadMany", "[I", true)
  | 36 => ("MakerStartsModel", "mLeadPlace", "[I", true)
  | 37 => ("MakerStartsModel", "mLeadsTo", "[I", true)
  | 38 => ("MakerStartsModel", "mHeld", "[I", true)
  | 39 => ("MakerStartsModel", "nKind", "[I", true)
  | 40 => ("MakerStartsModel", "nA", "[I", true)
  | 41 => ("MakerStartsModel", "nB", "[I", true)
  | 42 => ("MakerStartsModel", "nC", "[I", true)
  | 43 => ("MakerStartsModel", "nD", "[I", true)
  | 44 => ("MakerStartsModel", "nNext", "[I", true)
  | 45 => ("MakerStartsModel", "nPlace", "[I", true)
  | 46 => ("MakerStartsModel", "nName", "[J", true)
  | 47 => ("MakerStartsModel", "nOf", "[J", true)
  | 48 => ("MakerStartsModel", "nOfPlace", "[I", true)
  | 49 => ("MakerStartsModel", "nodes", "I", false)
  | 50 => ("MakerStartsModel", "statements", "I", false)
  | 51 => ("MakerStartsModel", "nest", "I", false)
  | 52 => ("MakerStartsModel", "type", "I", false)
  | 53 => ("MakerStartsModel", "member", "I", false)
  | 54 => ("MakerStartsModel", "inAct", "Z", false)
  | 55 => ("MakerStartsModel", "listed", "I", false)
  | 56 => ("MakerStartsModel", "isFixedPlace", "Z", false)
  | 57 => ("MakerStartsModel", "isConst", "Z", false)
  | 58 => ("MakerStartsModel", "isOrdered", "Z", false)
  | 59 => ("MakerStartsModel", "tState", "[I", true)
  | 60 => ("MakerStartsModel", "marked", "[I", true)
  | 61 => ("MakerStartsModel", "marks", "I", false)
  | 62 => ("MakerStartsModel", "things", "I", false)
  | 63 => ("MakerStartsModel", "steps", "I", false)
  | 64 => ("MakerStartsModel", "depth", "I", false)
  | 65 => ("MakerStartsModel", "out", "I", false)
  | 66 => ("MakerStartsModel", "returned", "I", false)
  | 67 => ("MakerStartsModel", "params", "[I", true)
  | 68 => ("MakerStartsModel", "thingType", "[I", true)
  | 69 => ("MakerStartsModel", "cells", "[I", true)
  | 70 => ("MakerStartsModel", "made", "I", false)
  | 71 => ("MakerStartsModel", "thing", "I", false)
  | 72 => ("MakerStartsModel", "self", "I", false)
  | _ => ("MakerStartsModel", "args", "[I", true)
def tyX12 : Nat → FieldType := fun k => match k with
  | 0 => .int
  | 1 => .array .byte
  | 2 => .int
  | 3 => .int
  | 4 => .array .long
  | 5 => .int
  | 6 => .int
  | 7 => .int
  | 8 => .long
  | 9 => .int
  | 10 => .int
  | 11 => .int
  | 12 => .int
  | 13 => .long
  | 14 => .int
  | 15 => .int
  | 16 => .int
  | 17 => .array .int
  | 18 => .array .long
  | 19 => .array .int
  | 20 => .array .long
  | 21 => .array .int
  | 22 => .array .int
  | 23 => .array .int
  | 24 => .array .int
  | 25 => .array .long
  | 26 => .array .int
  | 27 => .array .int
  | 28 => .array .int
  | 29 => .array .int
  | 30 => .array .int
  | 31 => .array .long
  | 32 => .array .int
  | 33 => .array .int
  | 34 => .array .int
  | 35 => .array .int
  | 36 => .array .int
  | 37 => .array .int
  | 38 => .array .int
  | 39 => .array .int
  | 40 => .array .int
  | 41 => .array .int
  | 42 => .array .int
  | 43 => .array .int
  | 44 => .array .int
  | 45 => .array .int
  | 46 => .array .long
  | 47 => .array .long
  | 48 => .array .int
  | 49 => .int
  | 50 => .int
  | 51 => .int
  | 52 => .int
  | 53 => .int
  | 54 => .boolean
  | 55 => .int
  | 56 => .boolean
  | 57 => .boolean
  | 58 => .boolean
  | 59 => .array .int
  | 60 => .array .int
  | 61 => .int
  | 62 => .int
  | 63 => .int
  | 64 => .int
  | 65 => .int
  | 66 => .int
  | 67 => .array .int
  | 68 => .array .int
  | 69 => .array .int
  | 70 => .int
  | 71 => .int
  | 72 => .int
  | _ => .array .int
theorem nmX12 : ∀ a, a < 74 → ∀ b, b < 74 → a ≠ b → (TX12 a).2.1 ≠ (TX12 b).2.1 := by decide +kernel
theorem tyX12_ok : ∀ k, k < 74 → parseFieldDescriptor (TX12 k).2.2.1 = some (tyX12 k) := by decide +kernel
abbrev cX12_init : ByteArray := prog_14_method_1_code
def yX12_init : MethodName := ⟨RX12, "<init>", "()V"⟩
abbrev cX12_thrown : ByteArray := prog_14_method_2_code
def yX12_thrown : MethodName := ⟨RX12, "thrown", "()I"⟩
abbrev cX12_feed : ByteArray := prog_14_method_3_code
def yX12_feed : MethodName := ⟨RX12, "feed", "(JI)I"⟩
abbrev cX12_isSmall : ByteArray := prog_14_method_4_code
def yX12_isSmall : MethodName := ⟨RX12, "isSmall", "(I)Z"⟩
abbrev cX12_isDigit : ByteArray := prog_14_method_5_code
def yX12_isDigit : MethodName := ⟨RX12, "isDigit", "(I)Z"⟩
abbrev cX12_next : ByteArray := prog_14_method_6_code
def yX12_next : MethodName := ⟨RX12, "next", "()V"⟩
abbrev cX12_word : ByteArray := prog_14_method_7_code
def yX12_word : MethodName := ⟨RX12, "word", "()V"⟩
abbrev cX12_fail : ByteArray := prog_14_method_8_code
def yX12_fail : MethodName := ⟨RX12, "fail", "(II)V"⟩
abbrev cX12_odd : ByteArray := prog_14_method_9_code
def yX12_odd : MethodName := ⟨RX12, "odd", "()V"⟩
abbrev cX12_later : ByteArray := prog_14_method_10_code
def yX12_later : MethodName := ⟨RX12, "later", "(II)V"⟩
abbrev cX12_is : ByteArray := prog_14_method_11_code
def yX12_is : MethodName := ⟨RX12, "is", "(I)Z"⟩
abbrev cX12_takes : ByteArray := prog_14_method_12_code
def yX12_takes : MethodName := ⟨RX12, "takes", "(I)Z"⟩
abbrev cX12_take : ByteArray := prog_14_method_13_code
def yX12_take : MethodName := ⟨RX12, "take", "(I)V"⟩
abbrev cX12_takeName : ByteArray := prog_14_method_14_code
def yX12_takeName : MethodName := ⟨RX12, "takeName", "()V"⟩
abbrev cX12_node : ByteArray := prog_14_method_15_code
def yX12_node : MethodName := ⟨RX12, "node", "(II)I"⟩
abbrev cX12_opens : ByteArray := prog_14_method_16_code
def yX12_opens : MethodName := ⟨RX12, "opens", "()V"⟩
abbrev cX12_exp : ByteArray := prog_14_method_17_code
def yX12_exp : MethodName := ⟨RX12, "exp", "()I"⟩
abbrev cX12_term : ByteArray := prog_14_method_18_code
def yX12_term : MethodName := ⟨RX12, "term", "()I"⟩
abbrev cX12_factor : ByteArray := prog_14_method_19_code
def yX12_factor : MethodName := ⟨RX12, "factor", "()I"⟩
abbrev cX12_list : ByteArray := prog_14_method_20_code
def yX12_list : MethodName := ⟨RX12, "list", "()I"⟩
abbrev cX12_body : ByteArray := prog_14_method_21_code
def yX12_body : MethodName := ⟨RX12, "body", "()I"⟩
abbrev cX12_statement : ByteArray := prog_14_method_22_code
def yX12_statement : MethodName := ⟨RX12, "statement", "()I"⟩
abbrev cX12_number : ByteArray := prog_14_method_23_code
def yX12_number : MethodName := ⟨RX12, "number", "(I)I"⟩
abbrev cX12_readTry : ByteArray := prog_14_method_24_code
def yX12_readTry : MethodName := ⟨RX12, "readTry", "(I)V"⟩
abbrev cX12_readMember : ByteArray := prog_14_method_25_code
def yX12_readMember : MethodName := ⟨RX12, "readMember", "()V"⟩
abbrev cX12_tellName : ByteArray := prog_14_method_26_code
def yX12_tellName : MethodName := ⟨RX12, "tellName", "()V"⟩
abbrev cX12_readMaker : ByteArray := prog_14_method_27_code
def yX12_readMaker : MethodName := ⟨RX12, "readMaker", "()V"⟩
abbrev cX12_readType : ByteArray := prog_14_method_28_code
def yX12_readType : MethodName := ⟨RX12, "readType", "()V"⟩
abbrev cX12_typeNamed : ByteArray := prog_14_method_29_code
def yX12_typeNamed : MethodName := ⟨RX12, "typeNamed", "(JI)I"⟩
abbrev cX12_meant : ByteArray := prog_14_method_30_code
def yX12_meant : MethodName := ⟨RX12, "meant", "(IJZ)I"⟩
abbrev cX12_actOf : ByteArray := prog_14_method_31_code
def yX12_actOf : MethodName := ⟨RX12, "actOf", "(IJ)I"⟩
abbrev cX12_paramOf : ByteArray := prog_14_method_32_code
def yX12_paramOf : MethodName := ⟨RX12, "paramOf", "(IJ)I"⟩
abbrev cX12_hasMakers : ByteArray := prog_14_method_33_code
def yX12_hasMakers : MethodName := ⟨RX12, "hasMakers", "(I)Z"⟩
abbrev cX12_makerOf : ByteArray := prog_14_method_34_code
def yX12_makerOf : MethodName := ⟨RX12, "makerOf", "(II)I"⟩
abbrev cX12_judgeName : ByteArray := prog_14_method_35_code
def yX12_judgeName : MethodName := ⟨RX12, "judgeName", "(IZ)V"⟩
abbrev cX12_judgeOf : ByteArray := prog_14_method_36_code
def yX12_judgeOf : MethodName := ⟨RX12, "judgeOf", "(IZ)V"⟩
abbrev cX12_judgeExp : ByteArray := prog_14_method_37_code
def yX12_judgeExp : MethodName := ⟨RX12, "judgeExp", "(I)V"⟩
abbrev cX12_judgeList : ByteArray := prog_14_method_38_code
def yX12_judgeList : MethodName := ⟨RX12, "judgeList", "(I)V"⟩
abbrev cX12_judgeBody : ByteArray := prog_14_method_39_code
def yX12_judgeBody : MethodName := ⟨RX12, "judgeBody", "(I)V"⟩
abbrev cX12_judgeStatement : ByteArray := prog_14_method_40_code
def yX12_judgeStatement : MethodName := ⟨RX12, "judgeStatement", "(I)V"⟩
abbrev cX12_judgeNames : ByteArray := prog_14_method_41_code
def yX12_judgeNames : MethodName := ⟨RX12, "judgeNames", "(I)V"⟩
abbrev cX12_judgeLead : ByteArray := prog_14_method_42_code
def yX12_judgeLead : MethodName := ⟨RX12, "judgeLead", "(I)V"⟩
abbrev cX12_judgeTold : ByteArray := prog_14_method_43_code
def yX12_judgeTold : MethodName := ⟨RX12, "judgeTold", "(I)V"⟩
abbrev cX12_outBody : ByteArray := prog_14_method_44_code
def yX12_outBody : MethodName := ⟨RX12, "outBody", "(I)I"⟩
abbrev cX12_outOf : ByteArray := prog_14_method_45_code
def yX12_outOf : MethodName := ⟨RX12, "outOf", "(I)I"⟩
abbrev cX12_endsBody : ByteArray := prog_14_method_46_code
def yX12_endsBody : MethodName := ⟨RX12, "endsBody", "(I)Z"⟩
abbrev cX12_ends : ByteArray := prog_14_method_47_code
def yX12_ends : MethodName := ⟨RX12, "ends", "(I)Z"⟩
abbrev cX12_outOfBlocks : ByteArray := prog_14_method_48_code
def yX12_outOfBlocks : MethodName := ⟨RX12, "outOfBlocks", "(I)I"⟩
abbrev cX12_toldBy : ByteArray := prog_14_method_49_code
def yX12_toldBy : MethodName := ⟨RX12, "toldBy", "(I)I"⟩
abbrev cX12_outOfMaker : ByteArray := prog_14_method_50_code
def yX12_outOfMaker : MethodName := ⟨RX12, "outOfMaker", "(I)I"⟩
abbrev cX12_outOfType : ByteArray := prog_14_method_51_code
def yX12_outOfType : MethodName := ⟨RX12, "outOfType", "(I)I"⟩
abbrev cX12_judgeCatches : ByteArray := prog_14_method_52_code
def yX12_judgeCatches : MethodName := ⟨RX12, "judgeCatches", "(I)V"⟩
abbrev cX12_judgeOut : ByteArray := prog_14_method_53_code
def yX12_judgeOut : MethodName := ⟨RX12, "judgeOut", "(I)V"⟩
abbrev cX12_judgeRing : ByteArray := prog_14_method_54_code
def yX12_judgeRing : MethodName := ⟨RX12, "judgeRing", "(I)V"⟩
abbrev cX12_judge : ByteArray := prog_14_method_55_code
def yX12_judge : MethodName := ⟨RX12, "judge", "()V"⟩
abbrev cX12_read : ByteArray := prog_14_method_56_code
def yX12_read : MethodName := ⟨RX12, "read", "()I"⟩
abbrev cX12_holdConstants : ByteArray := prog_14_method_57_code
def yX12_holdConstants : MethodName := ⟨RX12, "holdConstants", "()V"⟩
abbrev cX12_constant : ByteArray := prog_14_method_58_code
def yX12_constant : MethodName := ⟨RX12, "constant", "(I)I"⟩
abbrev cX12_both : ByteArray := prog_14_method_59_code
def yX12_both : MethodName := ⟨RX12, "both", "(III)I"⟩
abbrev cX12_steps : ByteArray := prog_14_method_60_code
def yX12_steps : MethodName := ⟨RX12, "steps", "()Z"⟩
abbrev cX12_work : ByteArray := prog_14_method_61_code
def yX12_work : MethodName := ⟨RX12, "work", "(II)I"⟩
abbrev cX12_get : ByteArray := prog_14_method_62_code
def yX12_get : MethodName := ⟨RX12, "get", "(I)I"⟩
abbrev cX12_set : ByteArray := prog_14_method_63_code
def yX12_set : MethodName := ⟨RX12, "set", "(II)V"⟩
abbrev cX12_callAct : ByteArray := prog_14_method_64_code
def yX12_callAct : MethodName := ⟨RX12, "callAct", "(J)I"⟩
abbrev cX12_runBody : ByteArray := prog_14_method_65_code
def yX12_runBody : MethodName := ⟨RX12, "runBody", "(II)I"⟩
abbrev cX12_run : ByteArray := prog_14_method_66_code
def yX12_run : MethodName := ⟨RX12, "run", "(II)I"⟩
abbrev cX12_runTry : ByteArray := prog_14_method_67_code
def yX12_runTry : MethodName := ⟨RX12, "runTry", "(II)I"⟩
abbrev cX12_runNew : ByteArray := prog_14_method_68_code
def yX12_runNew : MethodName := ⟨RX12, "runNew", "(II)I"⟩
abbrev cX12_makes : ByteArray := prog_14_method_69_code
def yX12_makes : MethodName := ⟨RX12, "makes", "(IIIII)I"⟩
abbrev cX12_lead : ByteArray := prog_14_method_70_code
def yX12_lead : MethodName := ⟨RX12, "lead", "(IIII)V"⟩
abbrev cX12_leadOn : ByteArray := prog_14_method_71_code
def yX12_leadOn : MethodName := ⟨RX12, "leadOn", "(III)V"⟩
abbrev cX12_fill : ByteArray := prog_14_method_72_code
def yX12_fill : MethodName := ⟨RX12, "fill", "(II)V"⟩
abbrev cX12_begin : ByteArray := prog_14_method_73_code
def yX12_begin : MethodName := ⟨RX12, "begin", "(I)V"⟩
abbrev cX12_fresh : ByteArray := prog_14_method_74_code
def yX12_fresh : MethodName := ⟨RX12, "fresh", "()V"⟩
abbrev cX12_make : ByteArray := prog_14_method_75_code
def yX12_make : MethodName := ⟨RX12, "make", "(IIIII)I"⟩
abbrev cX12_start : ByteArray := prog_14_method_76_code
def yX12_start : MethodName := ⟨RX12, "start", "(I)I"⟩
abbrev cX12_place : ByteArray := prog_14_method_77_code
def yX12_place : MethodName := ⟨RX12, "place", "()I"⟩
abbrev cX12_told : ByteArray := prog_14_method_78_code
def yX12_told : MethodName := ⟨RX12, "told", "(I)I"⟩
abbrev cX12_type : ByteArray := prog_14_method_79_code
def yX12_type : MethodName := ⟨RX12, "type", "(II)I"⟩
abbrev cX12_marked : ByteArray := prog_14_method_80_code
def yX12_marked : MethodName := ⟨RX12, "marked", "(I)I"⟩
abbrev cX12_isBelow : ByteArray := prog_14_method_81_code
def yX12_isBelow : MethodName := ⟨RX12, "isBelow", "(II)Z"⟩
abbrev cX12_field : ByteArray := prog_14_method_82_code
def yX12_field : MethodName := ⟨RX12, "field", "(II)I"⟩
abbrev cX12_held : ByteArray := prog_14_method_83_code
def yX12_held : MethodName := ⟨RX12, "held", "(II)I"⟩
abbrev cX12_fails : ByteArray := prog_14_method_84_code
def yX12_fails : MethodName := ⟨RX12, "fails", "(II)I"⟩
def RJx145de : String := "java/io/Serializable"
def RJ11 : String := "java/lang/Character"
abbrev cJ11_isValidCodePoint_9a6ad : ByteArray := prog_16_method_11_code
def yJ11_isValidCodePoint_9a6ad : MethodName := ⟨RJ11, "isValidCodePoint", "(I)Z"⟩
abbrev cJ11_highSurrogate_5068e : ByteArray := prog_16_method_28_code
def yJ11_highSurrogate_5068e : MethodName := ⟨RJ11, "highSurrogate", "(I)C"⟩
abbrev cJ11_lowSurrogate_5068e : ByteArray := prog_16_method_29_code
def yJ11_lowSurrogate_5068e : MethodName := ⟨RJ11, "lowSurrogate", "(I)C"⟩
def RJx8e188 : String := "java/lang/Cloneable"
def RJxab1ab : String := "java/lang/Iterable"
def RJ9 : String := "java/lang/Math"
abbrev cJ9_max_7cf53 : ByteArray := prog_22_method_65_code
def yJ9_max_7cf53 : MethodName := ⟨RJ9, "max", "(II)I"⟩
abbrev cJ9_min_7cf53 : ByteArray := prog_22_method_69_code
def yJ9_min_7cf53 : MethodName := ⟨RJ9, "min", "(II)I"⟩
def RJ0 : String := "java/lang/String"
abbrev cJ0_length_8abf5 : ByteArray := prog_24_method_54_code
def yJ0_length_8abf5 : MethodName := ⟨RJ0, "length", "()I"⟩
abbrev cJ0_charAt_5068e : ByteArray := prog_24_method_56_code
def yJ0_charAt_5068e : MethodName := ⟨RJ0, "charAt", "(I)C"⟩
abbrev cJ0_indexOf_0f7a4 : ByteArray := prog_24_method_79_code
def yJ0_indexOf_0f7a4 : MethodName := ⟨RJ0, "indexOf", "(I)I"⟩
abbrev cJ0_indexOf_7cf53 : ByteArray := prog_24_method_80_code
def yJ0_indexOf_7cf53 : MethodName := ⟨RJ0, "indexOf", "(II)I"⟩
abbrev cJ0_coder_7d493 : ByteArray := prog_24_method_152_code
def yJ0_coder_7d493 : MethodName := ⟨RJ0, "coder", "()B"⟩
abbrev cJ0_isLatin1_aae02 : ByteArray := prog_24_method_154_code
def yJ0_isLatin1_aae02 : MethodName := ⟨RJ0, "isLatin1", "()Z"⟩
abbrev cJ0_checkIndex_df160 : ByteArray := prog_24_method_155_code
def yJ0_checkIndex_df160 : MethodName := ⟨RJ0, "checkIndex", "(II)V"⟩
abbrev cJ0_checkBoundsBeginEnd_23922 : ByteArray := prog_24_method_158_code
def yJ0_checkBoundsBeginEnd_23922 : MethodName := ⟨RJ0, "checkBoundsBeginEnd", "(III)V"⟩
def RJ1 : String := "java/lang/StringLatin1"
abbrev cJ1_charAt_3b067 : ByteArray := prog_25_method_2_code
def yJ1_charAt_3b067 : MethodName := ⟨RJ1, "charAt", "([BI)C"⟩
abbrev cJ1_canEncode_9a6ad : ByteArray := prog_25_method_4_code
def yJ1_canEncode_9a6ad : MethodName := ⟨RJ1, "canEncode", "(I)Z"⟩
abbrev cJ1_indexOf_4cfef : ByteArray := prog_25_method_22_code
def yJ1_indexOf_4cfef : MethodName := ⟨RJ1, "indexOf", "([BIII)I"⟩
abbrev cJ1_indexOfChar_4cfef : ByteArray := prog_25_method_23_code
def yJ1_indexOfChar_4cfef : MethodName := ⟨RJ1, "indexOfChar", "([BIII)I"⟩
def RJ2 : String := "java/lang/StringUTF16"
abbrev cJ2_getChar_3b067 : ByteArray := prog_26_method_5_code
def yJ2_getChar_3b067 : MethodName := ⟨RJ2, "getChar", "([BI)C"⟩
abbrev cJ2_length_9d52b : ByteArray := prog_26_method_6_code
def yJ2_length_9d52b : MethodName := ⟨RJ2, "length", "([B)I"⟩
abbrev cJ2_indexOf_4cfef : ByteArray := prog_26_method_40_code
def yJ2_indexOf_4cfef : MethodName := ⟨RJ2, "indexOf", "([BIII)I"⟩
abbrev cJ2_indexOfChar_4cfef : ByteArray := prog_26_method_47_code
def yJ2_indexOfChar_4cfef : MethodName := ⟨RJ2, "indexOfChar", "([BIII)I"⟩
abbrev cJ2_indexOfCharUnsafe_4cfef : ByteArray := prog_26_method_48_code
def yJ2_indexOfCharUnsafe_4cfef : MethodName := ⟨RJ2, "indexOfCharUnsafe", "([BIII)I"⟩
abbrev cJ2_indexOfSupplementary_4cfef : ByteArray := prog_26_method_49_code
def yJ2_indexOfSupplementary_4cfef : MethodName := ⟨RJ2, "indexOfSupplementary", "([BIII)I"⟩
abbrev cJ2_charAt_3b067 : ByteArray := prog_26_method_83_code
def yJ2_charAt_3b067 : MethodName := ⟨RJ2, "charAt", "([BI)C"⟩
abbrev cJ2_checkIndex_2214a : ByteArray := prog_26_method_91_code
def yJ2_checkIndex_2214a : MethodName := ⟨RJ2, "checkIndex", "(I[B)V"⟩
abbrev cJ2_checkBoundsBeginEnd_d044e : ByteArray := prog_26_method_93_code
def yJ2_checkBoundsBeginEnd_d044e : MethodName := ⟨RJ2, "checkBoundsBeginEnd", "(II[B)V"⟩
def RJ10 : String := "java/lang/System"
def RJxa1e45 : String := "java/util/AbstractCollection"
abbrev cJxa1e45_init_da8c8 : ByteArray := prog_29_method_1_code
def yJxa1e45_init_da8c8 : MethodName := ⟨RJxa1e45, "<init>", "()V"⟩
def RJxc12de : String := "java/util/AbstractList"
abbrev cJxc12de_init_da8c8 : ByteArray := prog_30_method_1_code
def yJxc12de_init_da8c8 : MethodName := ⟨RJxc12de, "<init>", "()V"⟩
def RJx4a65c : String := "java/util/ArrayList"
def TJx4a65c : u_T := fun k => match k with
  | 0 => ("java/util/AbstractList", "modCount", "I", false)
  | 1 => ("java/util/ArrayList", "elementData", "[Ljava/lang/Object;", false)
  | _ => ("java/util/ArrayList", "size", "I", false)
def tyJx4a65c : Nat → FieldType := fun k => match k with
  | 0 => .int
  | 1 => .array (.object "java/lang/Object")
  | _ => .int
theorem nmJx4a65c : ∀ a, a < 3 → ∀ b, b < 3 → a ≠ b → (TJx4a65c a).2.1 ≠ (TJx4a65c b).2.1 := by decide +kernel
theorem tyJx4a65c_ok : ∀ k, k < 3 → parseFieldDescriptor (TJx4a65c k).2.2.1 = some (tyJx4a65c k) := by decide +kernel
abbrev cJx4a65c_init_da8c8 : ByteArray := prog_31_method_2_code
def yJx4a65c_init_da8c8 : MethodName := ⟨RJx4a65c, "<init>", "()V"⟩
abbrev cJx4a65c_grow_92f84 : ByteArray := prog_31_method_6_code
def yJx4a65c_grow_92f84 : MethodName := ⟨RJx4a65c, "grow", "(I)[Ljava/lang/Object;"⟩
abbrev cJx4a65c_grow_d5877 : ByteArray := prog_31_method_7_code
def yJx4a65c_grow_d5877 : MethodName := ⟨RJx4a65c, "grow", "()[Ljava/lang/Object;"⟩
abbrev cJx4a65c_size_8abf5 : ByteArray := prog_31_method_8_code
def yJx4a65c_size_8abf5 : MethodName := ⟨RJx4a65c, "size", "()I"⟩
abbrev cJx4a65c_elementData_915e3 : ByteArray := prog_31_method_18_code
def yJx4a65c_elementData_915e3 : MethodName := ⟨RJx4a65c, "elementData", "(I)Ljava/lang/Object;"⟩
abbrev cJx4a65c_get_915e3 : ByteArray := prog_31_method_20_code
def yJx4a65c_get_915e3 : MethodName := ⟨RJx4a65c, "get", "(I)Ljava/lang/Object;"⟩
abbrev cJx4a65c_add_72be8 : ByteArray := prog_31_method_24_code
def yJx4a65c_add_72be8 : MethodName := ⟨RJx4a65c, "add", "(Ljava/lang/Object;[Ljava/lang/Object;I)V"⟩
abbrev cJx4a65c_add_9ea2d : ByteArray := prog_31_method_25_code
def yJx4a65c_add_9ea2d : MethodName := ⟨RJx4a65c, "add", "(Ljava/lang/Object;)Z"⟩
abbrev cJx4a65c_clear_da8c8 : ByteArray := prog_31_method_40_code
def yJx4a65c_clear_da8c8 : MethodName := ⟨RJx4a65c, "clear", "()V"⟩
def RJ7 : String := "java/util/Arrays"
abbrev cJ7_fill_53178 : ByteArray := prog_32_method_103_code
def yJ7_fill_53178 : MethodName := ⟨RJ7, "fill", "([II)V"⟩
abbrev cJ7_copyOf_1904c : ByteArray := prog_32_method_119_code
def yJ7_copyOf_1904c : MethodName := ⟨RJ7, "copyOf", "([Ljava/lang/Object;I)[Ljava/lang/Object;"⟩
abbrev cJ7_copyOf_6403c : ByteArray := prog_32_method_120_code
def yJ7_copyOf_6403c : MethodName := ⟨RJ7, "copyOf", "([Ljava/lang/Object;ILjava/lang/Class;)[Ljava/lang/Object;"⟩
def RJx5ef63 : String := "java/util/Collection"
def RJxbd725 : String := "java/util/List"
def RJ15 : String := "java/util/Objects"
abbrev cJ15_checkIndex_7cf53 : ByteArray := prog_35_method_17_code
def yJ15_checkIndex_7cf53 : MethodName := ⟨RJ15, "checkIndex", "(II)I"⟩
def RJxf0a74 : String := "java/util/RandomAccess"
def RJxa66e6 : String := "java/util/SequencedCollection"
def RJ8 : String := "jdk/internal/util/ArraysSupport"
abbrev cJ8_newLength_cabcc : ByteArray := prog_38_method_27_code
def yJ8_newLength_cabcc : MethodName := ⟨RJ8, "newLength", "(III)I"⟩
abbrev cJ8_hugeLength_7cf53 : ByteArray := prog_38_method_28_code
def yJ8_hugeLength_7cf53 : MethodName := ⟨RJ8, "hugeLength", "(II)I"⟩
def RJ3 : String := "jdk/internal/util/Preconditions"
abbrev cJ3_checkIndex_8e157 : ByteArray := prog_39_method_11_code
def yJ3_checkIndex_8e157 : MethodName := ⟨RJ3, "checkIndex", "(IILjava/util/function/BiFunction;)I"⟩
abbrev cJ3_checkFromToIndex_8c36e : ByteArray := prog_39_method_12_code
def yJ3_checkFromToIndex_8c36e : MethodName := ⟨RJ3, "checkFromToIndex", "(IIILjava/util/function/BiFunction;)I"⟩
def RL : String := "MakerStartsLaw"
abbrev cL_marked : ByteArray := method_3_code
def yL_marked : MethodName := ⟨RL, "marked", "(LMakerStarts;I[J)I"⟩
abbrev cL_field : ByteArray := method_4_code
def yL_field : MethodName := ⟨RL, "field", "(LMakerStarts;II[J)I"⟩
abbrev cL_held : ByteArray := method_5_code
def yL_held : MethodName := ⟨RL, "held", "(LMakerStarts;II[J)I"⟩
abbrev cL_law : ByteArray := code
def yL_law : MethodName := ⟨RL, "law", "([I)Z"⟩
abbrev vwCl : List vw_C := [(RJx4a65c, TJx4a65c, 3), (RX0, TX0, 6), (RX1, TX1, 4), (RX2, TX2, 15), (RX4, TX4, 20), (RX5, TX5, 20), (RX6, TX6, 3), (RX7, TX7, 9), (RX8, TX8, 9), (RX9, TX9, 11), (RX10, TX10, 12), (RX11, TX11, 8), (RX12, TX12, 74)]
abbrev TY (cy : Nat → ClassId) : List (ClassId × FieldType) := [(cy 0, .byte), (cy 1, .int), (cy 2, .long), (cy 3, .boolean), (cy 4, .object "MakerStarts$Type"), (cy 5, .object "MakerStarts$Frame")]
theorem i_TJx4a65c : ∀ w ∈ u_ws RJx4a65c TJx4a65c 3, w ∈ TB := inTBs _ [208, 204, 206] (by decide +kernel) (by decide +kernel)
theorem f_TJx4a65c : ∀ j, j < 3 → defaultValue (tyJx4a65c j) = vp_V [.int 0, .null, .int 0] j := by decide +kernel
theorem i_TX0 : ∀ w ∈ u_ws RX0 TX0 6, w ∈ TB := inTBs _ [360, 362, 364, 366, 368, 370] (by decide +kernel) (by decide +kernel)
theorem f_TX0 : ∀ j, j < 6 → defaultValue (tyX0 j) = vp_V [.null, .null, .null, .int 0, .int 0, .int 0] j := by decide +kernel
theorem i_TX1 : ∀ w ∈ u_ws RX1 TX1 4, w ∈ TB := inTBs _ [393, 395, 397, 399] (by decide +kernel) (by decide +kernel)
theorem f_TX1 : ∀ j, j < 4 → defaultValue (tyX1 j) = vp_V [.null, .null, .int 0, .null] j := by decide +kernel
theorem i_TX2 : ∀ w ∈ u_ws RX2 TX2 15, w ∈ TB := inTBs _ [437, 439, 441, 443, 445, 447, 449, 451, 453, 455, 457, 459, 461, 463, 465] (by decide +kernel) (by decide +kernel)
theorem f_TX2 : ∀ j, j < 15 → defaultValue (tyX2 j) = vp_V [.int 0, .int 0, .int 0, .int 0, .int 0, .int 0, .null, .int 0, .null, .null, .null, .null, .null, .null, .int 0] j := by decide +kernel
theorem i_TX4 : ∀ w ∈ u_ws RX4 TX4 20, w ∈ TB := inTBs _ [492, 494, 496, 498, 500, 502, 504, 506, 508, 510, 512, 514, 516, 518, 520, 522, 524, 526, 528, 530] (by decide +kernel) (by decide +kernel)
theorem f_TX4 : ∀ j, j < 20 → defaultValue (tyX4 j) = vp_V [.null, .null, .null, .null, .int 0, .int 0, .int 0, .null, .int 0, .null, .int 0, .int 0, .int 0, .null, .null, .int 0, .int 0, .int 0, .int 0, .int 0] j := by decide +kernel
theorem i_TX5 : ∀ w ∈ u_ws RX5 TX5 20, w ∈ TB := inTBs _ [865, 867, 869, 871, 873, 875, 877, 879, 881, 883, 885, 887, 889, 891, 893, 895, 897, 899, 901, 903] (by decide +kernel) (by decide +kernel)
theorem f_TX5 : ∀ j, j < 20 → defaultValue (tyX5 j) = vp_V [.null, .int 0, .int 0, .int 0, .long 0, .int 0, .int 0, .int 0, .int 0, .int 0, .int 0, .null, .int 0, .int 0, .int 0, .int 0, .int 0, .null, .int 0, .int 0] j := by decide +kernel
theorem i_TX6 : ∀ w ∈ u_ws RX6 TX6 3, w ∈ TB := inTBs _ [376, 378, 380] (by decide +kernel) (by decide +kernel)
theorem f_TX6 : ∀ j, j < 3 → defaultValue (tyX6 j) = vp_V [.null, .null, .null] j := by decide +kernel
theorem i_TX7 : ∀ w ∈ u_ws RX7 TX7 9, w ∈ TB := inTBs _ [235, 237, 239, 241, 243, 245, 247, 249, 251] (by decide +kernel) (by decide +kernel)
theorem f_TX7 : ∀ j, j < 9 → defaultValue (tyX7 j) = vp_V [.null, .int 0, .null, .null, .int 0, .null, .int 0, .int 0, .int 0] j := by decide +kernel
theorem i_TX8 : ∀ w ∈ u_ws RX8 TX8 9, w ∈ TB := inTBs _ [328, 330, 332, 334, 336, 338, 340, 342, 344] (by decide +kernel) (by decide +kernel)
theorem f_TX8 : ∀ j, j < 9 → defaultValue (tyX8 j) = vp_V [.null, .null, .null, .null, .int 0, .int 0, .int 0, .int 0, .int 0] j := by decide +kernel
theorem i_TX9 : ∀ w ∈ u_ws RX9 TX9 11, w ∈ TB := inTBs _ [728, 730, 732, 734, 736, 738, 740, 742, 744, 746, 748] (by decide +kernel) (by decide +kernel)
theorem f_TX9 : ∀ j, j < 11 → defaultValue (tyX9 j) = vp_V [.int 0, .long 0, .int 0, .null, .null, .int 0, .null, .int 0, .int 0, .int 0, .int 0] j := by decide +kernel
theorem i_TX10 : ∀ w ∈ u_ws RX10 TX10 12, w ∈ TB := inTBs _ [983, 985, 987, 989, 991, 993, 995, 997, 999, 1001, 1003, 1005] (by decide +kernel) (by decide +kernel)
theorem f_TX10 : ∀ j, j < 12 → defaultValue (tyX10 j) = vp_V [.null, .int 0, .int 0, .int 0, .int 0, .int 0, .long 0, .long 0, .int 0, .int 0, .null, .int 0] j := by decide +kernel
theorem i_TX11 : ∀ w ∈ u_ws RX11 TX11 8, w ∈ TB := inTBs _ [541, 543, 545, 547, 549, 551, 553, 555] (by decide +kernel) (by decide +kernel)
theorem f_TX11 : ∀ j, j < 8 → defaultValue (tyX11 j) = vp_V [.null, .int 0, .int 0, .null, .null, .null, .null, .null] j := by decide +kernel
theorem i_TX12 : ∀ w ∈ u_ws RX12 TX12 74, w ∈ TB := inTBs _ [1789, 1791, 1793, 1795, 1797, 1799, 1801, 1803, 1805, 1807, 1809, 1811, 1813, 1815, 1817, 1819, 1821, 1823, 1825, 1827, 1829, 1831, 1833, 1835, 1837, 1839, 1841, 1843, 1845, 1847, 1849, 1851, 1853, 1855, 1857, 1859, 1861, 1863, 1865, 1867, 1869, 1871, 1873, 1875, 1877, 1879, 1881, 1883, 1885, 1887, 1889, 1891, 1893, 1895, 1897, 1899, 1901, 1903, 1905, 1907, 1909, 1911, 1913, 1915, 1917, 1919, 1921, 1923, 1925, 1927, 1929, 1931, 1933, 1935] (by decide +kernel) (by decide +kernel)
theorem f_TX12 : ∀ j, j < 74 → defaultValue (tyX12 j) = vp_V [.int 0, .null, .int 0, .int 0, .null, .int 0, .int 0, .int 0, .long 0, .int 0, .int 0, .int 0, .int 0, .long 0, .int 0, .int 0, .int 0, .null, .null, .null, .null, .null, .null, .null, .null, .null, .null, .null, .null, .null, .null, .null, .null, .null, .null, .null, .null, .null, .null, .null, .null, .null, .null, .null, .null, .null, .null, .null, .null, .int 0, .int 0, .int 0, .int 0, .int 0, .int 0, .int 0, .int 0, .int 0, .int 0, .null, .null, .int 0, .int 0, .int 0, .int 0, .int 0, .int 0, .null, .null, .null, .int 0, .int 0, .int 0, .null] j := by decide +kernel
end
section
/-! Begun as the print of names, its part on exceptions: the one namespace that it opens is written out; the catching of an exception is proved here anew (kx_), for the first row of a table. -/
/-! ===== BEGIN words of one list among another's, by their places ===== -/
theorem goodIn_r {big : List Cond} (ws : List Cond) (ps : List Nat) (hp : ws = ps.filterMap (fun i => big[i]?)) (h : ws.all goodWord = true) : GoodIn big ws := by
  intro w hw
  have h1 := List.all_eq_true.mp h w hw
  rw [hp] at hw
  obtain ⟨i, -, hi⟩ := List.mem_filterMap.mp hw
  have hm : w ∈ big := by first | exact List.mem_of_getElem? hi | exact List.getElem?_mem hi
  exact ⟨hm, good_of_word h1⟩
theorem goodIn_app {big a b : List Cond} (ha : GoodIn big a) (hb : GoodIn big b) : GoodIn big (a ++ b) := fun w h => (List.mem_append.mp h).elim (ha w) (hb w)
theorem goodIn_ca {big a b : List Cond} {c : Cond} (ha : GoodIn big (c :: a)) (hb : GoodIn big b) : GoodIn big (c :: (a ++ b)) := fun w h => (List.mem_cons.mp h).elim (fun e => ha w (List.mem_cons.mpr (Or.inl e))) (fun h => (List.mem_append.mp h).elim (fun h => ha w (List.mem_cons.mpr (Or.inr h))) (hb w))
theorem goodIn_sub {big ws : List Cond} (hm : ∀ w ∈ ws, w ∈ big) (h : ws.all goodWord = true) : GoodIn big ws := fun w hw => ⟨hm w hw, good_of_word (List.all_eq_true.mp h w hw)⟩
/-! ===== END ===== -/

/-! ===== BEGIN exceptions that leave a method, and their catching by the caller (launches without stack traces) ===== -/
section VXA
/-! The laws vx_back, vx_callV, vx_callS, vx_callSW, vx_throw0, vx_throwS follow proofs of the library, with one case more: JvmDerived/Free/Laws.lean (Back.of_free), Shelf42/LK1.lean (callV, callS), Shelf/KitTraced.lean (throwNew0V, throwNewS). -/
/-- where a method has thrown q: the class by its name, the cell, what was written, the world -/
def vx_T (XC : String → State → State → Prop) (st : State) (q : Addr) (t : State) (mc ms : Nat) (free : Addr → Prop) : Prop :=
  ∃ (E : String) (ce : Cell) (L : List Loc), XC E st t ∧ t.heap[q]? = some ce ∧ ce.vm = .none ∧ st.vm.findClass E = some ce.cls ∧ st.WarmedH t.vm ∧ st.sameButNew ({ t with vm := st.vm } : State) L mc ms ∧ ∀ z ∈ L, free z.base
def vx_Q (Qc : Array Value → State → Outcome → State → Prop) (XC : String → State → State → Prop) (mc ms : Nat) (free : Addr → Prop) : Array Value → State → Outcome → State → Prop := fun a st o t =>
  (Qc a st o t ∧ ∃ L, FrameEnd st o t L mc ms ∧ ∀ q ∈ L, free q.base) ∨ ∃ q, o = .threw q ∧ vx_T XC st q t mc ms free
/-- a callee that returns or throws -/
def vx_Met (l : Launch) (y : MethodName) (ws : List Cond) (rm : Room) (Pc : Array Value → State → Prop) (Qc : Array Value → State → Outcome → State → Prop) (XC : String → State → State → Prop) (mc ms : Nat) (free : Addr → Prop) : Prop :=
  MetFree l y (headSpec ws rm) Pc (fun _ _ _ _ _ => True) (vx_Q Qc XC mc ms free)
def vx_Post (XC : String → State → State → Prop) (mc ms : Nat) (free : Addr → Prop) : Pt → Array Value → Addr → Pt → Prop := fun A a q B =>
  ∃ (g : JFrame) (mk : MethodId) (t : State) (L : List Loc) (E : String) (ce : Cell), B.U.heap = t.heap ∧ B.U.vm = t.vm ∧ XC E (A.U.calling g mk a) t ∧ t.heap[q]? = some ce ∧ ce.vm = .none ∧ A.U.vm.findClass E = some ce.cls ∧ B.locs = A.locs ++ L ∧ (∀ z ∈ L, free z.base) ∧ B.cells = A.cells + mc ∧ B.slots = A.slots + ms
def vx_Back (l : Launch) (R : Room) (p : Program) (e : Env) (below : List Frame) (s : State) (sargs : Array Value) (y : MethodName) (len W9 : Nat)
    (Pre : Pt → Array Value → Prop) (Post : Pt → Array Value → Option Value → Pt → Prop) (PostX : Pt → Array Value → Addr → Pt → Prop) : Prop :=
  ∀ (m : MethodId) (meth : Method) (c : Code) (A : Pt) (g : JFrame) (ig : Instr) (mk : MethodId) (a : Array Value),
    Stand p l e R s m sargs below meth c A.U A.locs A.cells A.slots → g.method = m → g.locals.size = c.maxLocals → decode c.code g.pc = .ok (ig, len) →
    2 * g.monitorRoom + (g.stack.map fun v => v.category).sum ≤ W9 → A.U.methodNamed? y = some mk → Pre A a →
    (∃ (v : Option Value) (B : Pt), Stand p l e R s m sargs below meth c B.U B.locs B.cells B.slots ∧ Post A a v B ∧
      Steps p.tables e below (doInvoke e (A.U.setTop g) [] mk a).1 (B.U.setTop { g with pc := g.pc + len, stack := v.toList ++ g.stack })) ∨
    (∃ (q : Addr) (B : Pt), Stand p l e R s m sargs below meth c B.U B.locs B.cells B.slots ∧ PostX A a q B ∧
      Steps p.tables e below (doInvoke e (A.U.setTop g) [] mk a).1 ((B.U.setTop g).pushFrame (.throwing q)))
section Payer
variable {l : Launch} {R : Room} {p : Program} {e : Env} {below : List Frame} {s : State} {sargs : Array Value} {y : MethodName} {len W9 : Nat}
theorem vx_back {ws : List Cond} {rm : Room} {Pc : Array Value → State → Prop} {Qc : Array Value → State → Outcome → State → Prop} {XC : String → State → State → Prop} {mc ms : Nat} {free : Addr → Prop} {bytes : ByteArray} {maxL : Nat} {ret : Option FieldType}
    (hM : vx_Met l y ws rm Pc Qc XC mc ms free) (hblind : FrameBlind Pc) (hrc : rm.cells = mc) (hrs : rm.slots = ms)
    (hframes : rm.frames + 1 ≤ R.frames) (hlocals : W9 + (maxL + 11) + rm.locals ≤ R.locals)
    (hws : ∀ w ∈ ws, ∀ a' U, s.WarmedH U.vm → w.before a' U = true) (hcode : Cond.code y bytes maxL ret ∈ ws) (hinit : ∀ a' U, s.WarmedH U.vm → (Cond.initialized y.cls).before a' U = true) :
    vx_Back l R p e below s sargs y len W9 (PreOf R mc ms Pc) (PostOf Qc mc ms free) (vx_Post XC mc ms free) := by
  intro m meth c A g ig mk a X hg hsize hdg hW hn hp
  have h1 : (headSpec ws rm).pre.before a A.U = true := atoms_intro fun w hw => hws w hw _ _ X.warmed
  have h2 : (Cond.code y bytes maxL ret).before a A.U = true := hws _ hcode _ _ X.warmed
  have h3 : (Cond.initialized y.cls).before a A.U = true := hinit _ _ X.warmed
  have h4 : A.cells + (headSpec ws rm).room.cells ≤ R.cells := by rw [show (headSpec ws rm).room.cells = mc from hrc]; exact hp.1
  have h5 : A.slots + (headSpec ws rm).room.slots ≤ R.slots := by rw [show (headSpec ws rm).room.slots = ms from hrs]; exact hp.2.1
  have hPc : Pc a (A.U.calling g mk a) := hblind _ _ _ _ hp.2.2
  obtain ⟨U, Ls, c0, s0⟩ := A
  dsimp only [Pt.U, Pt.locs, Pt.cells, Pt.slots] at h1 h2 h3 h4 h5 X hn hPc ⊢
  obtain ⟨methY, cY, hmY, hcY, -, hlY, -, -, -, -⟩ := Cond.code_spec hn h2
  obtain ⟨kY, hkY, -⟩ := className_of_methodNamed hn
  have hinitY : kY.init = .initialized := Cond.initialized_spec (findClass_of_methodNamed hn) hkY h3
  have h : At U g.method c below := by rw [hg]; exact X.here
  have hlocals9 : W9 + (maxL + 11) + (headSpec ws rm).room.locals ≤ R.locals := hlocals
  have happ : (headSpec ws rm).appliesLoose y e.platform (U.calling g mk a) = true :=
    Spec.appliesLoose_calling (g := g) h hdg hn hkY hinitY
      (X.room_calling (g := g) (R' := (headSpec ws rm).room) hsize hmY hcY hframes (by rw [hlY]; omega) h4 h5) h1
  obtain ⟨mid, hmid⟩ := h.above
  have hfr : (U.setTop g).frames = (.java g :: mid) ++ below := by rw [State.frames_setTop' g h.top, hmid]; rfl
  obtain ⟨o, s₂, hsteps, -, hend, hq⟩ := Steps.callFree hM p X.admits X.cas X.clock (acts := []) hfr happ hPc trivial
  have hq' : vx_Q Qc XC mc ms free a (U.calling g mk a) o s₂ := hq
  rw [State.frames_setTop' g h.top] at hend
  obtain ⟨g₀, hg0⟩ := Option.isSome_iff_exists.mp h.top
  obtain ⟨r, hr⟩ := State.topJava?_eq_some.mp hg0
  have hr' : (({ U with heap := s₂.heap, slotsUsed := s₂.slotsUsed } : State).setVm s₂.vm).frames = .java g₀ :: r := hr
  rcases hq' with ⟨hqc, L, hfe, hL⟩ | ⟨q, rfl, E, ce, L, hx, hce, hcv, hcl, hW₂, hsm, hL⟩
  · obtain ⟨⟨v, rfl⟩, hW₂, e2, q2, q3, q4, q5, q6⟩ := id hfe
    have e3 : s₂ = ({ (U.calling g mk a).setFrames s₂.frames with heap := s₂.heap, slotsUsed := s₂.slotsUsed } : State).setVm s₂.vm := by
      have : s₂ = ({ s₂ with vm := (U.calling g mk a).vm } : State).setVm s₂.vm := rfl
      rw [e2] at this
      exact this
    obtain ⟨c₂, i₂, len₂, hc₂, hd₂, hf₂⟩ := hend
    have hW' : U.WarmedH s₂.vm := hW₂
    have hcc : c₂ = c := by
      have h1 : s₂.code? g.method = U.code? g.method := by
        rw [State.code?_eq, State.code?_eq, hW'.alike.method?]
      exact Option.some.inj (hc₂.symm.trans (h1.trans h.code))
    subst hcc
    have hlen : len₂ = len := by rw [hdg] at hd₂; cases hd₂; rfl
    subst hlen
    have hs₂ : s₂ = (({ U with heap := s₂.heap, slotsUsed := s₂.slotsUsed } : State).setVm s₂.vm).setTop { g with pc := g.pc + len₂, stack := v.toList ++ g.stack } := by
      refine e3.trans ?_
      rw [hf₂, State.calling_eq h.top, State.setFrames_setFrames, State.setTop_of_frames _ hr', hr]
      rfl
    have hsame : U.sameButNew ({ U with heap := s₂.heap, slotsUsed := s₂.slotsUsed } : State) L mc ms := by
      refine ⟨?_, q2, q3, q4, q5, q6⟩
      obtain ⟨t, ht, -⟩ := State.frames_cons hr
      show ({ U with heap := s₂.heap, slotsUsed := s₂.slotsUsed } : State) = { U.setFrames U.frames with heap := s₂.heap, slotsUsed := s₂.slotsUsed }
      rw [State.setFrames_self ht]
    subst hg
    refine Or.inl ⟨v, ⟨(({ U with heap := s₂.heap, slotsUsed := s₂.slotsUsed } : State).setVm s₂.vm), Ls ++ L, c0 + mc, s0 + ms⟩,
      ⟨X.admits, X.cas, X.clock, X.frames, X.room, X.hears, X.method, X.code, (X.here.setHeapUsed s₂.heap s₂.slotsUsed).setVm hW'.alike, X.tail, State.WarmedH.trans X.warmed hW', X.limits, X.bytes, X.same.trans (hsame.setVm s.vm)⟩,
      ⟨g, mk, s₂, L, rfl, rfl, hqc, rfl, hL, rfl, rfl⟩, ?_⟩
    show Steps p.tables e below _ ((({ U with heap := s₂.heap, slotsUsed := s₂.slotsUsed } : State).setVm s₂.vm).setTop { g with pc := g.pc + len₂, stack := v.toList ++ g.stack })
    rw [← hs₂]
    exact hsteps
  · obtain ⟨e2, q2, q3, q4, q5, q6⟩ := id hsm
    have e3 : s₂ = ({ (U.calling g mk a).setFrames s₂.frames with heap := s₂.heap, slotsUsed := s₂.slotsUsed } : State).setVm s₂.vm := by
      have : s₂ = ({ s₂ with vm := (U.calling g mk a).vm } : State).setVm s₂.vm := rfl
      rw [e2] at this
      exact this
    have hf₂ : s₂.frames = .throwing q :: .java g :: U.frames.tail := hend
    have hW' : U.WarmedH s₂.vm := hW₂
    have hs₂ : s₂ = ((({ U with heap := s₂.heap, slotsUsed := s₂.slotsUsed } : State).setVm s₂.vm).setTop g).pushFrame (.throwing q) := by
      refine e3.trans ?_
      rw [hf₂, State.calling_eq h.top, State.setFrames_setFrames, State.pushFrame, State.frames_setTop _ hr', State.setTop_of_frames _ hr', State.setFrames_setFrames, hr]
      rfl
    have hsame : U.sameButNew ({ U with heap := s₂.heap, slotsUsed := s₂.slotsUsed } : State) L mc ms := by
      refine ⟨?_, q2, q3, q4, q5, q6⟩
      obtain ⟨t, ht, -⟩ := State.frames_cons hr
      show ({ U with heap := s₂.heap, slotsUsed := s₂.slotsUsed } : State) = { U.setFrames U.frames with heap := s₂.heap, slotsUsed := s₂.slotsUsed }
      rw [State.setFrames_self ht]
    subst hg
    refine Or.inr ⟨q, ⟨(({ U with heap := s₂.heap, slotsUsed := s₂.slotsUsed } : State).setVm s₂.vm), Ls ++ L, c0 + mc, s0 + ms⟩,
      ⟨X.admits, X.cas, X.clock, X.frames, X.room, X.hears, X.method, X.code, (X.here.setHeapUsed s₂.heap s₂.slotsUsed).setVm hW'.alike, X.tail, State.WarmedH.trans X.warmed hW', X.limits, X.bytes, X.same.trans (hsame.setVm s.vm)⟩,
      ⟨g, mk, s₂, L, E, ce, rfl, rfl, hx, hce, hcv, hcl, rfl, hL, rfl, rfl⟩, ?_⟩
    show Steps p.tables e below _ (((({ U with heap := s₂.heap, slotsUsed := s₂.slotsUsed } : State).setVm s₂.vm).setTop g).pushFrame (.throwing q))
    rw [← hs₂]
    exact hsteps
end Payer
section Calls
variable {p : Program} {l : Launch} {e : Env} {R : Room} {s : State} {m : MethodId} {args : Array Value} {below : List Frame} {meth : Method} {c : Code} {T : State} {locs : List Loc} {cells slots : Nat}
theorem vx_callV (X : Stand p l e R s m args below meth c T locs cells slots) (hexec : p.tables.exec = Jvm.exec) {own C : String} {index : Nat} {y : MethodName} {bytes : ByteArray} {maxL : Nat} {ret : Option FieldType}
    (hown : s.vm.findClass own = some m.cls) (hlink : (Cond.methodLink own index y).before args s = true) (hinst : (Cond.instanceMethod y).before args s = true) (hsel : (Cond.selects C y y).before args s = true)
    (hcode : (Cond.code y bytes maxL ret).before args s = true) (hy : y.cls ≠ "java/lang/invoke/MethodHandle" ∧ y.cls ≠ "java/lang/invoke/VarHandle")
    {W9 : Nat} {Pre : Pt → Array Value → Prop} {Post : Pt → Array Value → Option Value → Pt → Prop} {PostX : Pt → Array Value → Addr → Pt → Prop} (hK : vx_Back l R p e below s args y 3 W9 Pre Post PostX)
    {b : Addr} {cellB : Cell} (hcell : T.heap[b]? = some cellB) (hobj : cellB.vm.isStatics = false) (hcls : s.vm.findClass C = some cellB.cls)
    {g : JFrame} (hg : g.method = m) (hsize : g.locals.size = c.maxLocals) {argsL rest : List Value} (hlen : ∀ sig, parseMethodDescriptor y.desc = some sig → argsL.length = sig.parameters.length)
    (hstack : g.stack = argsL.reverse ++ .ref b :: rest) (hW : 2 * g.monitorRoom + (rest.map fun v => v.category).sum ≤ W9) (hdg : decode c.code g.pc = .ok (.invokevirtual index, 3))
    (hpre : ∀ vm₁, s.WarmedH vm₁ → Pre ⟨T.setVm vm₁, locs, cells, slots⟩ (Value.ref b :: argsL).toArray) :
    (∃ (v : Option Value) (vm₁ : Vm) (B : Pt), s.WarmedH vm₁ ∧ Stand p l e R s m args below meth c B.U B.locs B.cells B.slots ∧ Post ⟨T.setVm vm₁, locs, cells, slots⟩ (Value.ref b :: argsL).toArray v B ∧
      ∀ target, Steps p.tables e below (B.U.setTop { g with pc := g.pc + 3, stack := v.toList ++ rest }) target → Steps p.tables e below (T.setTop g) target) ∨
    (∃ (q : Addr) (vm₁ : Vm) (B : Pt), s.WarmedH vm₁ ∧ Stand p l e R s m args below meth c B.U B.locs B.cells B.slots ∧ PostX ⟨T.setVm vm₁, locs, cells, slots⟩ (Value.ref b :: argsL).toArray q B ∧
      Steps p.tables e below (T.setTop g) ((B.U.setTop { g with stack := rest }).pushFrame (.throwing q))) := by
  obtain ⟨mk, methM, hnamed, hmethM, hstM, habM⟩ := Cond.instanceMethod_spec hinst
  obtain ⟨methM', cM, hmethM', -, -, -, -, -, -, hsigM⟩ := Cond.code_spec hnamed hcode
  cases hmethM.symm.trans hmethM'
  obtain ⟨c2, r2, m2, q1, q2, q3, q4, kP, hkP, hkPi⟩ := Cond.selects_spec hsel
  cases hcls.symm.trans q1
  cases (State.methodFound?_of_named hnamed hy).symm.trans q2
  cases hnamed.symm.trans q3
  have hselP : selectMethod e.platform s.vm cellB.cls mk = .method mk := by rw [Launch.admits_selectMethod X.admits]; exact q4
  obtain ⟨vm₁, X₁, hstep₁⟩ := X.invokevirtual hexec hown hlink hnamed hmethM hstM hkP hkPi hy (a := b) (cell := cellB) hcell
    (fun z h => by rw [h] at hobj; cases hobj) hselP hmethM habM hkP hkPi (g := g) hg (argsL := argsL) (rest := rest) (hlen _ hsigM) hstack hdg
  rcases hK m meth c ⟨T.setVm vm₁, locs, cells, slots⟩ { g with stack := rest } (.invokevirtual index) mk (Value.ref b :: argsL).toArray X₁ hg hsize hdg hW (X₁.named hnamed) (hpre vm₁ X₁.warmed) with ⟨v, B, X', hpost, hsteps⟩ | ⟨q, B, X', hpost, hsteps⟩
  · exact Or.inl ⟨v, vm₁, B, X₁.warmed, X', hpost, fun target h => hstep₁ _ fun acts => by rw [doInvoke_state]; exact hsteps.trans h⟩
  · exact Or.inr ⟨q, vm₁, B, X₁.warmed, X', hpost, hstep₁ _ fun acts => by rw [doInvoke_state]; exact hsteps⟩
theorem vx_callS (X : Stand p l e R s m args below meth c T locs cells slots) (hexec : p.tables.exec = Jvm.exec) {own : String} {index : Nat} {y : MethodName} {bytes : ByteArray} {maxL : Nat} {ret : Option FieldType}
    (hown : s.vm.findClass own = some m.cls) (hlink : (Cond.methodLink own index y).before args s = true) (hstat : (Cond.static y).before args s = true) (hinit : (Cond.initialized y.cls).before args s = true)
    (hcode : (Cond.code y bytes maxL ret).before args s = true) (hy : y.cls ≠ "java/lang/invoke/MethodHandle" ∧ y.cls ≠ "java/lang/invoke/VarHandle")
    {W9 : Nat} {Pre : Pt → Array Value → Prop} {Post : Pt → Array Value → Option Value → Pt → Prop} {PostX : Pt → Array Value → Addr → Pt → Prop} (hK : vx_Back l R p e below s args y 3 W9 Pre Post PostX)
    {g : JFrame} (hg : g.method = m) (hsize : g.locals.size = c.maxLocals) {argsL rest : List Value} (hlen : ∀ sig, parseMethodDescriptor y.desc = some sig → argsL.length = sig.parameters.length)
    (hstack : g.stack = argsL.reverse ++ rest) (hW : 2 * g.monitorRoom + (rest.map fun v => v.category).sum ≤ W9) (hdg : decode c.code g.pc = .ok (.invokestatic index, 3))
    (hpre : ∀ vm₁, s.WarmedH vm₁ → Pre ⟨T.setVm vm₁, locs, cells, slots⟩ argsL.toArray) :
    (∃ (v : Option Value) (vm₁ : Vm) (B : Pt), s.WarmedH vm₁ ∧ Stand p l e R s m args below meth c B.U B.locs B.cells B.slots ∧ Post ⟨T.setVm vm₁, locs, cells, slots⟩ argsL.toArray v B ∧
      ∀ target, Steps p.tables e below (B.U.setTop { g with pc := g.pc + 3, stack := v.toList ++ rest }) target → Steps p.tables e below (T.setTop g) target) ∨
    (∃ (q : Addr) (vm₁ : Vm) (B : Pt), s.WarmedH vm₁ ∧ Stand p l e R s m args below meth c B.U B.locs B.cells B.slots ∧ PostX ⟨T.setVm vm₁, locs, cells, slots⟩ argsL.toArray q B ∧
      Steps p.tables e below (T.setTop g) ((B.U.setTop { g with stack := rest }).pushFrame (.throwing q))) := by
  obtain ⟨mk, hnamed⟩ := Cond.code_named hcode
  obtain ⟨methM, cM, hmethM, -, -, -, -, -, -, hsigM⟩ := Cond.code_spec hnamed hcode
  have hstatic : methM.isStatic = true := Cond.static_spec hnamed hmethM hstat
  obtain ⟨kP, hkP, -⟩ := className_of_methodNamed hnamed
  have hinitP : kP.init = .initialized := Cond.initialized_spec (findClass_of_methodNamed hnamed) hkP hinit
  obtain ⟨vm₁, X₁, hstep₁⟩ := X.invokestatic hexec hown hlink hnamed hmethM hstatic hkP hinitP hy (g := g) hg (argsL := argsL) (rest := rest) (hlen _ hsigM) hstack hdg
  rcases hK m meth c ⟨T.setVm vm₁, locs, cells, slots⟩ { g with stack := rest } (.invokestatic index) mk argsL.toArray X₁ hg hsize hdg hW (X₁.named hnamed) (hpre vm₁ X₁.warmed) with ⟨v, B, X', hpost, hsteps⟩ | ⟨q, B, X', hpost, hsteps⟩
  · exact Or.inl ⟨v, vm₁, B, X₁.warmed, X', hpost, fun target h => hstep₁ _ fun acts => by rw [doInvoke_state]; exact hsteps.trans h⟩
  · exact Or.inr ⟨q, vm₁, B, X₁.warmed, X', hpost, hstep₁ _ fun acts => by rw [doInvoke_state]; exact hsteps⟩
end Calls
theorem vx_cls {s : State} {T : State} {vm₁ : Vm} {E : String} {k : ClassId} (hW : s.WarmedH vm₁) (h : (T.setVm vm₁).vm.findClass E = some k) : s.vm.findClass E = some k := by
  have h1 : vm₁.findClass E = some k := h
  rw [hW.alike.findClass] at h1
  exact h1
/-- the method's frame g, with q thrown over it -/
def vx_W (p : Program) (l : Launch) (e : Env) (R : Room) (s : State) (m : MethodId) (args : Array Value) (below : List Frame) (meth : Method) (c : Code) (H : Heap) (locs : List Loc) (cells slots : Nat) (Q : State → Prop) (g : JFrame) (q : Addr) : Prop :=
  ∀ T : State, T.heap = H → Stand p l e R s m args below meth c T locs cells slots → ∃ t, Steps p.tables e below ((T.setTop g).pushFrame (.throwing q)) t ∧ Q t
def vx_Run (p : Program) (l : Launch) (e : Env) (R : Room) (s : State) (m : MethodId) (args : Array Value) (below : List Frame) (meth : Method) (c : Code) (H : Heap) (locs : List Loc) (cells slots mc ms : Nat) (g : JFrame) (rest : List Value) (Qa : State → Outcome → State → Prop) (XC : String → State → State → Prop) (free : Addr → Prop) : Prop :=
  ∀ T : State, T.heap = H → Stand p l e R s m args below meth c T locs cells slots →
    (∃ (v : Option Value) (st₀ t T' : State) (L : List Loc), st₀.heap = H ∧ Stand p l e R s m args below meth c T' (locs ++ L) (cells + mc) (slots + ms) ∧ (∀ q ∈ L, free q.base) ∧ T'.heap = t.heap ∧ T'.vm = t.vm ∧ Qa st₀ (.returned v) t ∧
      Goes p e below T g T' { g with pc := g.pc + 3, stack := v.toList ++ rest }) ∨
    (∃ (q : Addr) (st₀ t T' : State) (L : List Loc) (E : String) (ce : Cell), st₀.heap = H ∧ Stand p l e R s m args below meth c T' (locs ++ L) (cells + mc) (slots + ms) ∧ (∀ z ∈ L, free z.base) ∧ T'.heap = t.heap ∧ T'.vm = t.vm ∧ XC E st₀ t ∧ t.heap[q]? = some ce ∧ ce.vm = .none ∧ s.vm.findClass E = some ce.cls ∧
      Steps p.tables e below (T.setTop g) ((T'.setTop { g with stack := rest }).pushFrame (.throwing q)))
def vx_X {S : Type} (px : S → Prop) (B : String → S → State → Prop) (A : Nat → Prop) : String → State → State → Prop := fun E st t => ∃ u : S, px u ∧ B E u t ∧ va_F A st t
section Runs
variable {p : Program} {l : Launch} {e : Env} {R : Room} {s : State} {m : MethodId} {args : Array Value} {below : List Frame} {meth : Method} {c : Code} {H : Heap} {locs : List Loc} {cells slots : Nat}
variable {y : MethodName} {bytes cc : ByteArray} {maxL nL mc ms n index : Nat} {ret : Option FieldType} {ws : List Cond} {rm : Room} {Pc : Array Value → State → Prop} {Qc : Array Value → State → Outcome → State → Prop} {XC : String → State → State → Prop} {free : Addr → Prop} {Ts : List Cond} {own C : String} {b : Addr} {As rest : List Value} {g : JFrame}
theorem vx_callBack (cb : CallB R s args own index y bytes maxL ret ws rm mc ms n) (hM : vx_Met l y ws rm Pc Qc XC mc ms free) (hbl : FrameBlind Pc) : vx_Back l R p e below s args y 3 8 (PreOf R mc ms Pc) (PostOf Qc mc ms free) (vx_Post XC mc ms free) := by
  obtain ⟨hrc, hrs, hfr, hlo, hws, hcw, -, hini, -⟩ := cb
  exact vx_back (bytes := bytes) (maxL := maxL) (ret := ret) hM hbl hrc hrs hfr hlo hws hcw (fun a' U hW => word_at hW (Or.inl (by first | rfl | simp [Cond.onTables, Cond.keeps, Cond.steady])) hini)
theorem vx_runV (S : CallFix p m c cc nL s args Ts own) (hM : vx_Met l y ws rm Pc Qc XC mc ms free) (cw : CallW R s args own C index y bytes maxL ret ws rm mc ms n) (hp : PreV s H C b Pc As)
    (hg : g.method = m) (hn : As.length = n) (hsize : g.locals.size = nL) (hstack : g.stack = As.reverse ++ .ref b :: rest) (hW : 2 * g.monitorRoom + (rest.map fun v => v.category).sum ≤ 8) (hdg : decode cc g.pc = .ok (.invokevirtual index, 3)) (hf : cells + mc ≤ R.cells ∧ slots + ms ≤ R.slots) :
    vx_Run p l e R s m args below meth c H locs cells slots mc ms g rest (Qc (Value.ref b :: As).toArray) XC free := by
  have hK : vx_Back l R p e below s args y 3 8 (PreOf R mc ms Pc) (PostOf Qc mc ms free) (vx_Post XC mc ms free) := vx_callBack cw.1 hM hp.1
  obtain ⟨⟨-, -, -, -, -, -, hcode, -, hy, hlen, hl⟩, hin, hse⟩ := cw
  obtain ⟨hx, hb, hml, ho, -⟩ := S
  obtain ⟨-, ⟨cellB, hcB, hoB, hclB⟩, hPc⟩ := hp
  intro T hT X
  rcases vx_callV X hx (C := C) (bytes := bytes) (maxL := maxL) (ret := ret) ho hl hin hse hcode hy hK (by rw [hT]; exact hcB) hoB hclB hg (hsize.trans hml.symm) (argsL := As) (rest := rest) (fun sig h => hn.trans (hlen sig h)) hstack hW (by rw [hb]; exact hdg)
    (fun vm₁ hW₁ => ⟨hf.1, hf.2, hPc (T.setVm vm₁) hT hW₁⟩) with ⟨v, vm₁, ⟨U', l2, c2, s2⟩, hW₁, X', ⟨g', mk, t, L, e1, e2, hq, h1, hL, h2, h3⟩, st⟩ | ⟨q, vm₁, ⟨U', l2, c2, s2⟩, hW₁, X', ⟨g', mk, t, L, E, ce, e1, e2, hq, hce, hcv, hcl, h1, hL, h2, h3⟩, st⟩
  · dsimp only [Pt.U, Pt.locs, Pt.cells, Pt.slots] at X' e1 e2 h1 h2 h3 st
    subst h1; subst h2; subst h3
    exact Or.inl ⟨v, (T.setVm vm₁).calling g' mk (Value.ref b :: As).toArray, t, U', L, hT, X', hL, e1, e2, hq, st⟩
  · dsimp only [Pt.U, Pt.locs, Pt.cells, Pt.slots] at X' e1 e2 h1 h2 h3 st hcl
    subst h1; subst h2; subst h3
    exact Or.inr ⟨q, (T.setVm vm₁).calling g' mk (Value.ref b :: As).toArray, t, U', L, E, ce, hT, X', hL, e1, e2, hq, hce, hcv, vx_cls hW₁ hcl, st⟩
theorem vx_runS (S : CallFix p m c cc nL s args Ts own) (hM : vx_Met l y ws rm Pc Qc XC mc ms free) (cw : CallB R s args own index y bytes maxL ret ws rm mc ms n ∧ (Cond.static y).before args s = true) (hp : PreS s H Pc As)
    (hg : g.method = m) (hn : As.length = n) (hsize : g.locals.size = nL) (hstack : g.stack = As.reverse ++ rest) (hW : 2 * g.monitorRoom + (rest.map fun v => v.category).sum ≤ 8) (hdg : decode cc g.pc = .ok (.invokestatic index, 3)) (hf : cells + mc ≤ R.cells ∧ slots + ms ≤ R.slots) :
    vx_Run p l e R s m args below meth c H locs cells slots mc ms g rest (Qc As.toArray) XC free := by
  have hK : vx_Back l R p e below s args y 3 8 (PreOf R mc ms Pc) (PostOf Qc mc ms free) (vx_Post XC mc ms free) := vx_callBack cw.1 hM hp.1
  obtain ⟨⟨-, -, -, -, -, -, hcode, hini, hy, hlen, hl⟩, hstt⟩ := cw
  obtain ⟨hx, hb, hml, ho, -⟩ := S
  intro T hT X
  rcases vx_callS X hx (bytes := bytes) (maxL := maxL) (ret := ret) ho hl hstt hini hcode hy hK hg (hsize.trans hml.symm) (argsL := As) (rest := rest) (fun sig h => hn.trans (hlen sig h)) hstack hW (by rw [hb]; exact hdg)
    (fun vm₁ hW₁ => ⟨hf.1, hf.2, hp.2 (T.setVm vm₁) hT hW₁⟩) with ⟨v, vm₁, ⟨U', l2, c2, s2⟩, hW₁, X', ⟨g', mk, t, L, e1, e2, hq, h1, hL, h2, h3⟩, st⟩ | ⟨q, vm₁, ⟨U', l2, c2, s2⟩, hW₁, X', ⟨g', mk, t, L, E, ce, e1, e2, hq, hce, hcv, hcl, h1, hL, h2, h3⟩, st⟩
  · dsimp only [Pt.U, Pt.locs, Pt.cells, Pt.slots] at X' e1 e2 h1 h2 h3 st
    subst h1; subst h2; subst h3
    exact Or.inl ⟨v, (T.setVm vm₁).calling g' mk As.toArray, t, U', L, hT, X', hL, e1, e2, hq, st⟩
  · dsimp only [Pt.U, Pt.locs, Pt.cells, Pt.slots] at X' e1 e2 h1 h2 h3 st hcl
    subst h1; subst h2; subst h3
    exact Or.inr ⟨q, (T.setVm vm₁).calling g' mk As.toArray, t, U', L, E, ce, hT, X', hL, e1, e2, hq, hce, hcv, vx_cls hW₁ hcl, st⟩
end Runs
section Rows
variable {p : Program} {l : Launch} {e : Env} {R : Room} {s : State} {m : MethodId} {args : Array Value} {below : List Frame} {meth : Method} {c : Code} {H : Heap} {locs : List Loc} {cells slots : Nat} {Q : State → Prop}
variable {mc ms : Nat} {free : Addr → Prop} {A0 A1 : Nat → Prop} {H0 : Heap} {a : Array Value} {pc : Nat} {ls : Array Slot} {st0 rest : List Value}
theorem vx_keep {st₀ t T' : State} {L : List Loc} (h0 : st₀.heap = H) (e1 : T'.heap = t.heap) (hS : va_S A0 H0 H locs) (hA : ∀ q, q < H.size → A1 q → A0 q) (hf : ∀ q, free q → A0 q) (hL : ∀ q ∈ L, free q.base) (hF : va_F A1 st₀ t) :
    H.size ≤ T'.heap.size ∧ (∀ q : Nat, q < H.size → ¬ A1 q → T'.heap[q]? = H[q]?) ∧ va_S A0 H0 T'.heap (locs ++ L) := by
  obtain ⟨hz, hk⟩ := hF
  rw [h0] at hz hk
  exact ⟨by rw [e1]; exact hz, fun q h1 h2 => by rw [e1]; exact hk q h1 h2,
    ⟨Nat.le_trans hS.1 (by rw [e1]; exact hz), fun q h1 h2 => by rw [e1, hk q (Nat.lt_of_lt_of_le h1 hS.1) (fun z => h2 (hA q (Nat.lt_of_lt_of_le h1 hS.1) z))]; exact hS.2.1 q h1 h2, fun q hq => by
      rcases List.mem_append.mp hq with h | h
      · exact hS.2.2 q h
      · exact hf _ (hL q h)⟩⟩
theorem vx_calli {S SX : Type} {post : Int32 → S → Prop} {px : SX → Prop} {B : S → State → Prop} {BX : String → SX → State → Prop} {AX : Nat → Prop} (hr : vx_Run p l e R s m args below meth c H locs cells slots mc ms (F0 m pc ls st0) rest (va_Qi post B A1 a) (vx_X px BX AX) free) (hS : va_S A0 H0 H locs) (hA : ∀ q, q < H.size → A1 q → A0 q) (hf : ∀ q, free q → A0 q) (hAX : ∀ q, q < H.size → AX q → A0 q)
    (kx : ∀ (E : String) (ce : Cell) (q9 : Addr) (u : SX) (t : State) (H1 : Heap) (locs1 : List Loc), t.heap = H1 → s.vm.Alike t.vm → px u → BX E u t → H.size ≤ H1.size → (∀ q : Nat, q < H.size → ¬ AX q → H1[q]? = H[q]?) → va_S A0 H0 H1 locs1 → H1[q9]? = some ce → ce.vm = .none → s.vm.findClass E = some ce.cls → vx_W p l e R s m args below meth c H1 locs1 (cells + mc) (slots + ms) Q (F0 m pc ls rest) q9)
    (kk : ∀ (r : Int32) (u : S) (t : State) (H1 : Heap) (locs1 : List Loc), t.heap = H1 → s.vm.Alike t.vm → post r u → B u t → H.size ≤ H1.size → (∀ q : Nat, q < H.size → ¬ A1 q → H1[q]? = H[q]?) → va_S A0 H0 H1 locs1 → W p l e R s m args below meth c H1 locs1 (cells + mc) (slots + ms) Q (F0 m (pc + 3) ls (.int r :: rest))) : W p l e R s m args below meth c H locs cells slots Q (F0 m pc ls st0) := by
  intro T hT X
  rcases hr T hT X with ⟨v, st₀, t, T', L, h0, X', hL, e1, e2, ⟨⟨r, u, hv, hp, hb⟩, hF⟩, st⟩ | ⟨q, st₀, t, T', L, E, ce, h0, X', hL, e1, e2, ⟨u, hp, hb, hF⟩, hce, hcv, hcl, st⟩
  · cases hv
    obtain ⟨k1, k2, k3⟩ := vx_keep h0 e1 hS hA hf hL hF
    obtain ⟨t2, a1, b1⟩ := kk r u t T'.heap (locs ++ L) e1.symm (by rw [← e2]; exact X'.warmed.alike) hp hb k1 k2 k3 T' rfl X'
    exact ⟨t2, st t2 a1, b1⟩
  · obtain ⟨k1, k2, k3⟩ := vx_keep h0 e1 hS hAX hf hL hF
    obtain ⟨t2, a1, b1⟩ := kx E ce q u t T'.heap (locs ++ L) e1.symm (by rw [← e2]; exact X'.warmed.alike) hp hb k1 k2 k3 (by rw [e1]; exact hce) hcv hcl T' rfl X'
    exact ⟨t2, st.trans a1, b1⟩
theorem vx_calll {S SX : Type} {post : Int64 → S → Prop} {px : SX → Prop} {B : S → State → Prop} {BX : String → SX → State → Prop} {AX : Nat → Prop} (hr : vx_Run p l e R s m args below meth c H locs cells slots mc ms (F0 m pc ls st0) rest (va_Ql post B A1 a) (vx_X px BX AX) free) (hS : va_S A0 H0 H locs) (hA : ∀ q, q < H.size → A1 q → A0 q) (hf : ∀ q, free q → A0 q) (hAX : ∀ q, q < H.size → AX q → A0 q)
    (kx : ∀ (E : String) (ce : Cell) (q9 : Addr) (u : SX) (t : State) (H1 : Heap) (locs1 : List Loc), t.heap = H1 → s.vm.Alike t.vm → px u → BX E u t → H.size ≤ H1.size → (∀ q : Nat, q < H.size → ¬ AX q → H1[q]? = H[q]?) → va_S A0 H0 H1 locs1 → H1[q9]? = some ce → ce.vm = .none → s.vm.findClass E = some ce.cls → vx_W p l e R s m args below meth c H1 locs1 (cells + mc) (slots + ms) Q (F0 m pc ls rest) q9)
    (kk : ∀ (r : Int64) (u : S) (t : State) (H1 : Heap) (locs1 : List Loc), t.heap = H1 → s.vm.Alike t.vm → post r u → B u t → H.size ≤ H1.size → (∀ q : Nat, q < H.size → ¬ A1 q → H1[q]? = H[q]?) → va_S A0 H0 H1 locs1 → W p l e R s m args below meth c H1 locs1 (cells + mc) (slots + ms) Q (F0 m (pc + 3) ls (.long r :: rest))) : W p l e R s m args below meth c H locs cells slots Q (F0 m pc ls st0) := by
  intro T hT X
  rcases hr T hT X with ⟨v, st₀, t, T', L, h0, X', hL, e1, e2, ⟨⟨r, u, hv, hp, hb⟩, hF⟩, st⟩ | ⟨q, st₀, t, T', L, E, ce, h0, X', hL, e1, e2, ⟨u, hp, hb, hF⟩, hce, hcv, hcl, st⟩
  · cases hv
    obtain ⟨k1, k2, k3⟩ := vx_keep h0 e1 hS hA hf hL hF
    obtain ⟨t2, a1, b1⟩ := kk r u t T'.heap (locs ++ L) e1.symm (by rw [← e2]; exact X'.warmed.alike) hp hb k1 k2 k3 T' rfl X'
    exact ⟨t2, st t2 a1, b1⟩
  · obtain ⟨k1, k2, k3⟩ := vx_keep h0 e1 hS hAX hf hL hF
    obtain ⟨t2, a1, b1⟩ := kx E ce q u t T'.heap (locs ++ L) e1.symm (by rw [← e2]; exact X'.warmed.alike) hp hb k1 k2 k3 (by rw [e1]; exact hce) hcv hcl T' rfl X'
    exact ⟨t2, st.trans a1, b1⟩
theorem vx_callf {S SX : Type} {post : UInt32 → S → Prop} {px : SX → Prop} {B : S → State → Prop} {BX : String → SX → State → Prop} {AX : Nat → Prop} (hr : vx_Run p l e R s m args below meth c H locs cells slots mc ms (F0 m pc ls st0) rest (va_Qf post B A1 a) (vx_X px BX AX) free) (hS : va_S A0 H0 H locs) (hA : ∀ q, q < H.size → A1 q → A0 q) (hf : ∀ q, free q → A0 q) (hAX : ∀ q, q < H.size → AX q → A0 q)
    (kx : ∀ (E : String) (ce : Cell) (q9 : Addr) (u : SX) (t : State) (H1 : Heap) (locs1 : List Loc), t.heap = H1 → s.vm.Alike t.vm → px u → BX E u t → H.size ≤ H1.size → (∀ q : Nat, q < H.size → ¬ AX q → H1[q]? = H[q]?) → va_S A0 H0 H1 locs1 → H1[q9]? = some ce → ce.vm = .none → s.vm.findClass E = some ce.cls → vx_W p l e R s m args below meth c H1 locs1 (cells + mc) (slots + ms) Q (F0 m pc ls rest) q9)
    (kk : ∀ (r : UInt32) (u : S) (t : State) (H1 : Heap) (locs1 : List Loc), t.heap = H1 → s.vm.Alike t.vm → post r u → B u t → H.size ≤ H1.size → (∀ q : Nat, q < H.size → ¬ A1 q → H1[q]? = H[q]?) → va_S A0 H0 H1 locs1 → W p l e R s m args below meth c H1 locs1 (cells + mc) (slots + ms) Q (F0 m (pc + 3) ls (.float r :: rest))) : W p l e R s m args below meth c H locs cells slots Q (F0 m pc ls st0) := by
  intro T hT X
  rcases hr T hT X with ⟨v, st₀, t, T', L, h0, X', hL, e1, e2, ⟨⟨r, u, hv, hp, hb⟩, hF⟩, st⟩ | ⟨q, st₀, t, T', L, E, ce, h0, X', hL, e1, e2, ⟨u, hp, hb, hF⟩, hce, hcv, hcl, st⟩
  · cases hv
    obtain ⟨k1, k2, k3⟩ := vx_keep h0 e1 hS hA hf hL hF
    obtain ⟨t2, a1, b1⟩ := kk r u t T'.heap (locs ++ L) e1.symm (by rw [← e2]; exact X'.warmed.alike) hp hb k1 k2 k3 T' rfl X'
    exact ⟨t2, st t2 a1, b1⟩
  · obtain ⟨k1, k2, k3⟩ := vx_keep h0 e1 hS hAX hf hL hF
    obtain ⟨t2, a1, b1⟩ := kx E ce q u t T'.heap (locs ++ L) e1.symm (by rw [← e2]; exact X'.warmed.alike) hp hb k1 k2 k3 (by rw [e1]; exact hce) hcv hcl T' rfl X'
    exact ⟨t2, st.trans a1, b1⟩
theorem vx_calld {S SX : Type} {post : UInt64 → S → Prop} {px : SX → Prop} {B : S → State → Prop} {BX : String → SX → State → Prop} {AX : Nat → Prop} (hr : vx_Run p l e R s m args below meth c H locs cells slots mc ms (F0 m pc ls st0) rest (va_Qd post B A1 a) (vx_X px BX AX) free) (hS : va_S A0 H0 H locs) (hA : ∀ q, q < H.size → A1 q → A0 q) (hf : ∀ q, free q → A0 q) (hAX : ∀ q, q < H.size → AX q → A0 q)
    (kx : ∀ (E : String) (ce : Cell) (q9 : Addr) (u : SX) (t : State) (H1 : Heap) (locs1 : List Loc), t.heap = H1 → s.vm.Alike t.vm → px u → BX E u t → H.size ≤ H1.size → (∀ q : Nat, q < H.size → ¬ AX q → H1[q]? = H[q]?) → va_S A0 H0 H1 locs1 → H1[q9]? = some ce → ce.vm = .none → s.vm.findClass E = some ce.cls → vx_W p l e R s m args below meth c H1 locs1 (cells + mc) (slots + ms) Q (F0 m pc ls rest) q9)
    (kk : ∀ (r : UInt64) (u : S) (t : State) (H1 : Heap) (locs1 : List Loc), t.heap = H1 → s.vm.Alike t.vm → post r u → B u t → H.size ≤ H1.size → (∀ q : Nat, q < H.size → ¬ A1 q → H1[q]? = H[q]?) → va_S A0 H0 H1 locs1 → W p l e R s m args below meth c H1 locs1 (cells + mc) (slots + ms) Q (F0 m (pc + 3) ls (.double r :: rest))) : W p l e R s m args below meth c H locs cells slots Q (F0 m pc ls st0) := by
  intro T hT X
  rcases hr T hT X with ⟨v, st₀, t, T', L, h0, X', hL, e1, e2, ⟨⟨r, u, hv, hp, hb⟩, hF⟩, st⟩ | ⟨q, st₀, t, T', L, E, ce, h0, X', hL, e1, e2, ⟨u, hp, hb, hF⟩, hce, hcv, hcl, st⟩
  · cases hv
    obtain ⟨k1, k2, k3⟩ := vx_keep h0 e1 hS hA hf hL hF
    obtain ⟨t2, a1, b1⟩ := kk r u t T'.heap (locs ++ L) e1.symm (by rw [← e2]; exact X'.warmed.alike) hp hb k1 k2 k3 T' rfl X'
    exact ⟨t2, st t2 a1, b1⟩
  · obtain ⟨k1, k2, k3⟩ := vx_keep h0 e1 hS hAX hf hL hF
    obtain ⟨t2, a1, b1⟩ := kx E ce q u t T'.heap (locs ++ L) e1.symm (by rw [← e2]; exact X'.warmed.alike) hp hb k1 k2 k3 (by rw [e1]; exact hce) hcv hcl T' rfl X'
    exact ⟨t2, st.trans a1, b1⟩
theorem vx_callv {S SX : Type} {post : S → Prop} {px : SX → Prop} {B : S → State → Prop} {BX : String → SX → State → Prop} {AX : Nat → Prop} (hr : vx_Run p l e R s m args below meth c H locs cells slots mc ms (F0 m pc ls st0) rest (va_Qv post B A1 a) (vx_X px BX AX) free) (hS : va_S A0 H0 H locs) (hA : ∀ q, q < H.size → A1 q → A0 q) (hf : ∀ q, free q → A0 q) (hAX : ∀ q, q < H.size → AX q → A0 q)
    (kx : ∀ (E : String) (ce : Cell) (q9 : Addr) (u : SX) (t : State) (H1 : Heap) (locs1 : List Loc), t.heap = H1 → s.vm.Alike t.vm → px u → BX E u t → H.size ≤ H1.size → (∀ q : Nat, q < H.size → ¬ AX q → H1[q]? = H[q]?) → va_S A0 H0 H1 locs1 → H1[q9]? = some ce → ce.vm = .none → s.vm.findClass E = some ce.cls → vx_W p l e R s m args below meth c H1 locs1 (cells + mc) (slots + ms) Q (F0 m pc ls rest) q9)
    (kk : ∀ (u : S) (t : State) (H1 : Heap) (locs1 : List Loc), t.heap = H1 → s.vm.Alike t.vm → post u → B u t → H.size ≤ H1.size → (∀ q : Nat, q < H.size → ¬ A1 q → H1[q]? = H[q]?) → va_S A0 H0 H1 locs1 → W p l e R s m args below meth c H1 locs1 (cells + mc) (slots + ms) Q (F0 m (pc + 3) ls (rest))) : W p l e R s m args below meth c H locs cells slots Q (F0 m pc ls st0) := by
  intro T hT X
  rcases hr T hT X with ⟨v, st₀, t, T', L, h0, X', hL, e1, e2, ⟨⟨u, hv, hp, hb⟩, hF⟩, st⟩ | ⟨q, st₀, t, T', L, E, ce, h0, X', hL, e1, e2, ⟨u, hp, hb, hF⟩, hce, hcv, hcl, st⟩
  · cases hv
    obtain ⟨k1, k2, k3⟩ := vx_keep h0 e1 hS hA hf hL hF
    obtain ⟨t2, a1, b1⟩ := kk u t T'.heap (locs ++ L) e1.symm (by rw [← e2]; exact X'.warmed.alike) hp hb k1 k2 k3 T' rfl X'
    exact ⟨t2, st t2 a1, b1⟩
  · obtain ⟨k1, k2, k3⟩ := vx_keep h0 e1 hS hAX hf hL hF
    obtain ⟨t2, a1, b1⟩ := kx E ce q u t T'.heap (locs ++ L) e1.symm (by rw [← e2]; exact X'.warmed.alike) hp hb k1 k2 k3 (by rw [e1]; exact hce) hcv hcl T' rfl X'
    exact ⟨t2, st.trans a1, b1⟩
/-- the search of a table whose first row covers the place and names a class that takes the thrown one -/
theorem kx_find {e : Env} {S : State} {f : JFrame} {a : Addr} {meth : Method} {code : Code} (hm : S.vm.method? f.method = some meth) (hc : meth.code = some code) {x : ExceptionTableEntry} {suf : List ExceptionTableEntry} (hsplit : code.exceptionTable.toList = x :: suf) (hx : covers x f.pc = true) (h0 : x.catchType ≠ 0) {k : ClassId} {cell : Cell}
    (hl : S.vm.ClassLinks e.platform f.method.cls x.catchType k) (hcell : S.heap[a]? = some cell) (hobj : ∀ j, cell.vm ≠ .statics j) (h1 : ∃ j, S.vm.classes[cell.cls]? = some j) (h2 : ∃ j, S.vm.classes[k]? = some j) (hfit : S.vm.assignable cell.cls k = true) :
    ∀ (Q : Handler → Pre) (E : CtlPost) (d : Bool) (acts : List Action), wp (findHandler f a) Q E e d acts S ↔ Q (.found x.handlerPc) d acts (S.setVm (S.vm.noted f.method.cls x.catchType (.cls k))) := by
  intro Q E d acts
  have hal : S.vm.Alike (S.vm.noted f.method.cls x.catchType (.cls k)) := (Vm.Alike.refl S.vm).noted _ _ _
  obtain ⟨g1, g2⟩ := (resolveClass_links e.toSetting hl).op (op := VmOp.resolveClass f.method.cls x.catchType) rfl
  obtain ⟨j1, hj1⟩ := h1
  obtain ⟨j2, hj2⟩ := h2
  obtain ⟨_, n1, -⟩ := hal.2.2 _ _ hj1
  obtain ⟨_, n2, -⟩ := hal.2.2 _ _ hj2
  have n3 : (S.vm.noted f.method.cls x.catchType (.cls k)).assignable cell.cls k = true := by rw [hal.assignable]; exact hfit
  rw [_root_.Jvm.W.findHandler_eq hm hc, hsplit]
  simp only [covers] at hx
  simp [findHandler.go, hx, h0, g1, g2, hcell, hobj, n1, n2, n3, VmOp.dirties, VmOp.acts]
theorem kx_frames (u : State) (vm1 : Vm) (F G : List Frame) : ((u.setFrames F).setVm vm1).setFrames G = (u.setVm vm1).setFrames G := by
  show ((u.setVm vm1).setFrames F).setFrames G = _
  rw [State.setFrames_setFrames]
theorem kx_go {tb : Tables} {e : Env} {T t : State} {g : JFrame} {c : Code} {below : List Frame} {a : Addr} (h : At T g.method c below) {pc : Nat} {vm1 : Vm}
    (hf : ∀ (Q : Handler → Pre) (E : CtlPost) (d : Bool) (acts : List Action), wp (findHandler g a) Q E e d acts ((T.setTop g).pushFrame (.throwing a)) ↔ Q (.found pc) d acts (((T.setTop g).pushFrame (.throwing a)).setVm vm1))
    (k : Steps tb e below ((T.setVm vm1).setTop { g with pc := pc, stack := [.ref a] }) t) : Steps tb e below ((T.setTop g).pushFrame (.throwing a)) t := by
  obtain ⟨g1, g2⟩ := h.throwing a
  refine Steps.head g1 g2 ?_
  have st : ∀ r : List Frame, (stepThrowing e ((T.setTop g).pushFrame (.throwing a)) a (.java g :: r)).Is ((((T.setTop g).pushFrame (.throwing a)).setVm vm1).setFrames (.java { g with pc := pc, stack := [.ref a] } :: r)) [] := by
    intro r
    simp only [stepThrowing, searchFrame, vmDo]
    generalize hr : Sem.go _ e false [] ((T.setTop g).pushFrame (.throwing a)) = res
    obtain ⟨as, rfl, ha⟩ := Sem.eq_ok_of hr (a := Handler.found pc) (s' := ((T.setTop g).pushFrame (.throwing a)).setVm vm1) (acts' := []) (by simp [hf _ _ _ _])
    exact ⟨rfl, ha⟩
  obtain ⟨g0, hg⟩ := Option.isSome_iff_exists.mp h.top
  obtain ⟨r, hr⟩ := State.topJava?_eq_some.mp hg
  have hr2 : (T.setVm vm1).frames = .java g0 :: r := hr
  rw [State.setTop_of_frames _ hr2] at k
  rw [stepThread_throwing (frames_entered h.top _), (st _).1, hr, List.tail_cons, State.pushFrame, kx_frames, State.setTop_of_frames _ hr, kx_frames]
  exact k
/-- caught by the first row of this method's table -/
theorem kx_catch {own name : String} {E : String} {ce : Cell} {q : Addr} (hown : s.vm.findClass own = some m.cls) (x : ExceptionTableEntry) (suf : List ExceptionTableEntry) (hsplit : c.exceptionTable.toList = x :: suf)
    (hx : covers x pc = true) (h0 : x.catchType ≠ 0)
    (hlink : (Cond.classLink own x.catchType name).before args s = true) (hcast : (Cond.castable E name).before args s = true) (hcell : H[q]? = some ce) (hv : ce.vm = .none) (hcl : s.vm.findClass E = some ce.cls)
    (kk : W p l e R s m args below meth c H locs cells slots Q (F0 m x.handlerPc ls [.ref q])) : vx_W p l e R s m args below meth c H locs cells slots Q (F0 m pc ls rest) q := by
  intro T hT X
  have hpl : e.platform.magicAccessors = ({} : Platform).magicAccessors := by rw [X.admits.platform]
  obtain ⟨c3, c4, hc3, hc4, hasg⟩ := Cond.castable_spec hcast
  cases Option.some.inj (hc3.symm.trans hcl)
  obtain ⟨c5, hc5, hcl5⟩ := Cond.classLink_spec hown hlink e.platform hpl
  cases Option.some.inj (hc4.symm.trans hc5)
  obtain ⟨_, _, _, kt, hd, _, _, _, _, hkt, _, hopen⟩ := hcl5.here
  have hal := X.warmed.alike
  obtain ⟨_, hkt2, -⟩ := hal.2.2 _ _ hkt
  have hfit : T.vm.assignable ce.cls c4 = true := by rw [hal.assignable]; exact hasg
  have hW2 : s.WarmedH (T.vm.noted m.cls x.catchType (.cls c4)) := X.warmed.noted hd hopen (State.rightAt_cls hcl5)
  have hkk := kk (T.setVm (T.vm.noted m.cls x.catchType (.cls c4))) hT (X.noted hW2)
  obtain ⟨t, a1, b1⟩ := hkk
  refine ⟨t, ?_, b1⟩
  refine kx_go (g := F0 m pc ls rest) (vm1 := T.vm.noted m.cls x.catchType (.cls c4)) (pc := x.handlerPc) X.here ?_ a1
  exact kx_find (S := (T.setTop (F0 m pc ls rest)).pushFrame (.throwing q)) (f := F0 m pc ls rest) (meth := meth) (code := c) X.method' X.code hsplit hx h0 (X.warmed.classLinks hcl5) (by rw [← hT] at hcell; exact hcell) (VmData.ne_statics_of (by rw [hv]; rfl)) (Vm.classAt_of_assignable hfit ⟨_, hkt2⟩) ⟨_, hkt2⟩ hfit
end Rows
section Ends
variable {p : Program} {l : Launch} {e : Env} {R : Room} {s : State} {m : MethodId} {args : Array Value} {below : List Frame} {meth : Method} {c : Code} {H : Heap} {locs : List Loc} {cells slots : Nat} {Q : State → Prop}
variable {mc ms : Nat} {free : Addr → Prop} {A0 A1 : Nat → Prop} {H0 : Heap} {a : Array Value} {ls : Array Slot} {st0 rest : List Value}
variable {Qc : Array Value → State → Outcome → State → Prop} {XC : String → State → State → Prop}
/-- what a body that may throw owes at its end -/
def vx_MQ (below : List Frame) (Qc : Array Value → State → Outcome → State → Prop) (XC : String → State → State → Prop) (a : Array Value) (s : State) (mc ms : Nat) (free : Addr → Prop) : State → Prop := fun t =>
  ∃ o, t.status = .running ∧ Ended t below o ∧ vx_Q Qc XC mc ms free a s o t
theorem vx_ret {g : JFrame} {mc ms : Nat} (k : W p l e R s m args below meth c H locs cells slots (MQ below Qc args s mc ms free) g) : W p l e R s m args below meth c H locs cells slots (vx_MQ below Qc XC args s mc ms free) g := by
  intro T hT X
  obtain ⟨t, a1, o, b1, b2, b3, b4⟩ := k T hT X
  exact ⟨t, a1, o, b1, b2, Or.inl ⟨b3, b4⟩⟩
/-- not caught here: it goes on to the caller -/
theorem vx_widen {g : JFrame} {q : Addr} {k n : Nat} (h1 : cells ≤ k) (h2 : slots ≤ n) (kk : vx_W p l e R s m args below meth c H locs k n Q g q) : vx_W p l e R s m args below meth c H locs cells slots Q g q := fun T hT X => kk T hT (stand_widen X h1 h2)
theorem vx_out {pc : Nat} {E : String} {ce : Cell} {q : Addr} {mc ms : Nat} (hout : ∀ x ∈ c.exceptionTable.toList, covers x pc = false) (hlocks : meth.locks = false) (hcell : H[q]? = some ce) (hv : ce.vm = .none) (hcl : s.vm.findClass E = some ce.cls)
    (hx : ∀ t : State, t.heap = H → s.vm.Alike t.vm → XC E s t) (hf : ∀ z ∈ locs, free z.base) (hc : cells ≤ mc) (hs : slots ≤ ms) :
    vx_W p l e R s m args below meth c H locs cells slots (vx_MQ below Qc XC args s mc ms free) (F0 m pc ls rest) q := by
  intro T hT X
  obtain ⟨st1, hrun, hend, hW, hsm⟩ := X.leaveThrown q (g := F0 m pc ls rest) rfl rfl rfl hout hlocks
  have hcell9 : (T.setFrames (.throwing q :: below)).heap[q]? = some ce := by
    show T.heap[q]? = some ce
    rw [hT]; exact hcell
  exact ⟨_, st1, .threw q, hrun, hend, Or.inr ⟨q, rfl, E, ce, locs, hx _ hT hW.alike, hcell9, hv, hcl, hW, hsm.mono hc hs, hf⟩⟩
theorem vx_frame {U : State} {k n : Nat} (h : s.sameButNew ({ U with vm := s.vm } : State) locs k n) : s.heap.size ≤ U.heap.size ∧ ∀ q : Nat, q < s.heap.size → (∀ z ∈ locs, z.base ≠ q) → U.heap[q]? = s.heap[q]? := by
  obtain ⟨-, h2, -, -, -, h6⟩ := h
  refine ⟨h2, fun q hq hz => ?_⟩
  obtain ⟨c9, e1, e2, e3, e4⟩ := h6 q _ (Array.getElem?_eq_getElem hq)
  have hs : c9.slots = (s.heap[q]).slots := Array.ext_getElem? fun i => e4 i fun hm => hz _ hm rfl
  have h9 : c9 = s.heap[q] := by
    rw [hs] at e2
    exact e2
  have e5 : U.heap[q]? = some c9 := e1
  rw [e5, h9, Array.getElem?_eq_getElem hq]
/-- the words of a throw but the four that speak of the heap -/
def vx_no (w : Cond) : Bool := decide (w ≠ .isRef (.static Bundle.tN "UNASSIGNED_STACK" Bundle.steD)) && decide (w ≠ .isRef (.static Bundle.tN "SUPPRESSED_SENTINEL" Bundle.listD)) && decide (w ≠ .laysStatic Bundle.tN "UNASSIGNED_STACK" Bundle.steD) && decide (w ≠ .laysStatic Bundle.tN "SUPPRESSED_SENTINEL" Bundle.listD)
def vx_at0 (own : String) (ic : Nat) (X : String) (names : List String) : List Cond := (Bundle.ownAtoms0 own ic X names).filter vx_no
def vx_atS (own : String) (ic : Nat) (X : String) (names : List String) : List Cond := (Bundle.ownAtoms own ic X names).filter vx_no
/-- a word that the tables alone decide, or a good one -/
def vx_ot (w : Cond) : Bool := w.onTables || goodWord w
theorem vx_ot_at {args a' : Array Value} {s U : State} {w : Cond} (hW : s.WarmedH U.vm) (hvm : s.vm = U.vm) (hg : vx_ot w = true) (h : w.before args s = true) : w.before a' U = true := by
  simp only [vx_ot, Bool.or_eq_true] at hg
  rcases hg with hg | hg
  · exact va_tabs hg hvm h
  · exact word_at hW (good_of_word hg) h
/-- a list's words: the good ones out of the method's own list, the others by premises of their own -/
theorem vx_hat {args : Array Value} {s : State} {L B : List Cond} (h1 : ∀ w ∈ L.filter goodWord, w.before args s = true) (h2 : ∀ w ∈ L.filter (fun w => !goodWord w), w ∈ B) (h3 : ∀ w ∈ B, w.before args s = true) : ∀ w ∈ L, w.before args s = true := by
  intro w hw
  by_cases g : goodWord w = true
  · exact h1 w (List.mem_filter.mpr ⟨hw, g⟩)
  · refine h3 w (h2 w (List.mem_filter.mpr ⟨hw, ?_⟩))
    show (!goodWord w) = true
    cases hgw : goodWord w
    · rfl
    · exact absurd hgw g
theorem vx_c {args : Array Value} {s : State} {w : Cond} {B : List Cond} (h : w.before args s = true) (t : ∀ w ∈ B, w.before args s = true) : ∀ w' ∈ w :: B, w'.before args s = true := fun w' h' => (List.mem_cons.mp h').elim (fun e => by rw [e]; exact h) (t w')
theorem vx_n {args : Array Value} {s : State} : ∀ w ∈ ([] : List Cond), w.before args s = true := fun _ h => nomatch h
theorem vx_own {args : Array Value} {s : State} {L : List Cond} (h1 : ∀ w ∈ L.filter vx_no, w.before args s = true)
    (hU : (Cond.isRef (.static Bundle.tN "UNASSIGNED_STACK" Bundle.steD)).before args s = true) (hN : (Cond.isRef (.static Bundle.tN "SUPPRESSED_SENTINEL" Bundle.listD)).before args s = true)
    (lU : (Cond.laysStatic Bundle.tN "UNASSIGNED_STACK" Bundle.steD).before args s = true) (lN : (Cond.laysStatic Bundle.tN "SUPPRESSED_SENTINEL" Bundle.listD).before args s = true) : ∀ w ∈ L, w.before args s = true := by
  intro w hw
  by_cases e1 : w = .isRef (.static Bundle.tN "UNASSIGNED_STACK" Bundle.steD)
  · rw [e1]; exact hU
  · by_cases e2 : w = .isRef (.static Bundle.tN "SUPPRESSED_SENTINEL" Bundle.listD)
    · rw [e2]; exact hN
    · by_cases e3 : w = .laysStatic Bundle.tN "UNASSIGNED_STACK" Bundle.steD
      · rw [e3]; exact lU
      · by_cases e4 : w = .laysStatic Bundle.tN "SUPPRESSED_SENTINEL" Bundle.listD
        · rw [e4]; exact lN
        · exact h1 w (List.mem_filter.mpr ⟨hw, by unfold vx_no; rw [decide_eq_true e1, decide_eq_true e2, decide_eq_true e3, decide_eq_true e4]; rfl⟩)
/-- where a static field lies, its class's statics cell in H -/
def vx_L (C n d : String) (A : Nat → Prop) (U : State) (H : Heap) : Prop := ∃ (c : ClassId) (k : Class) (i : Nat) (f : Field) (a : Nat) (cell : Cell), U.vm.findClass C = some c ∧ U.fieldFound? C n d = some (c, k, i, f) ∧ f.isStatic = true ∧ k.statics = some a ∧ H[a]? = some cell ∧ cell.vm.isStatics = true ∧ cell.cls = c ∧ f.slot < cell.slots.size ∧ k.staticTypes[f.slot]? = some f.type ∧ ¬ A a
theorem vx_L.moved {C n d : String} {A : Nat → Prop} {u U : State} {H : Heap} (hvm : u.vm.Alike U.vm) (h : vx_L C n d A u H) : vx_L C n d A U H := by
  obtain ⟨c, k, i, f, a, cell, h1, h2, h3, h4, h5, h6, h7, h8, h9, h10⟩ := h
  obtain ⟨k', hi', he⟩ := State.fieldFound?_setVm hvm h2
  exact ⟨c, k', i, f, a, cell, by rw [hvm.findClass]; exact h1, hi', h3, by rw [he]; exact h4, h5, h6, h7, h8, by rw [he]; exact h9, h10⟩
theorem vx_L.kept {C n d : String} {A : Nat → Prop} {U : State} {H H1 : Heap} (h : vx_L C n d A U H) (hq : ∀ a : Nat, a < H.size → ¬ A a → H1[a]? = H[a]?) : vx_L C n d A U H1 := by
  obtain ⟨c, k, i, f, a, cell, h1, h2, h3, h4, h5, h6, h7, h8, h9, h10⟩ := h
  exact ⟨c, k, i, f, a, cell, h1, h2, h3, h4, by rw [hq a (Array.getElem?_eq_some_iff.mp h5).1 h10]; exact h5, h6, h7, h8, h9, h10⟩
theorem vx_L.narrow {C n d : String} {A B : Nat → Prop} {U : State} {H : Heap} (h : vx_L C n d A U H) (hAB : ∀ q, B q → A q) : vx_L C n d B U H := by
  obtain ⟨c, k, i, f, a, cell, h1, h2, h3, h4, h5, h6, h7, h8, h9, h10⟩ := h
  exact ⟨c, k, i, f, a, cell, h1, h2, h3, h4, h5, h6, h7, h8, h9, fun z => h10 (hAB _ z)⟩
theorem vx_L.word {C n d : String} {A : Nat → Prop} {s : State} {args : Array Value} (h : vx_L C n d A s s.heap) : (Cond.laysStatic C n d).before args s = true := by
  obtain ⟨c, k, i, f, a, cell, h1, h2, h3, h4, h5, h6, h7, h8, h9, -⟩ := h
  show (Cond.laysStatic C n d).holds args s none s [] = true
  exact Cond.laysStatic_of h1 h2 h3 h4 h5 h6 h7 h8 h9
/-- .. and what it holds: null or some reference -/
def vx_Zq (C n d : String) (A : Nat → Prop) (U : State) (H : Heap) : Prop := va_Zq C n d A U H ∧ vx_L C n d A U H
theorem vx_Zq.moved {C n d : String} {A : Nat → Prop} {u U : State} {H : Heap} (hvm : u.vm.Alike U.vm) (h : vx_Zq C n d A u H) : vx_Zq C n d A U H := ⟨va_Zq.moved hvm h.1, vx_L.moved hvm h.2⟩
theorem vx_Zq.kept {C n d : String} {A : Nat → Prop} {U : State} {H H1 : Heap} (h : vx_Zq C n d A U H) (hq : ∀ a : Nat, a < H.size → ¬ A a → H1[a]? = H[a]?) : vx_Zq C n d A U H1 := ⟨va_Zq.kept h.1 hq, vx_L.kept h.2 hq⟩
theorem vx_Zq.narrow {C n d : String} {A B : Nat → Prop} {U : State} {H : Heap} (h : vx_Zq C n d A U H) (hAB : ∀ q, B q → A q) : vx_Zq C n d B U H := ⟨va_Zq.narrow h.1 hAB, vx_L.narrow h.2 hAB⟩
theorem vx_Zqof {args : Array Value} {s : State} {C n d : String} {A : Nat → Prop} (hl : (Cond.laysStatic C n d).before args s = true) (hini : (Cond.initialized C).before args s = true) (h : (Cond.isRef (.static C n d)).before args s = true) (hA : ∀ a : Nat, a < s.heap.size → ¬ A a) : vx_Zq C n d A s s.heap := by
  refine ⟨va_Zqof hl hini h hA, ?_⟩
  obtain ⟨c, k, i, f, a, cell, h1, h2, h3, h4, h5, h6, h7, h8, h9⟩ := Cond.laysStatic_spec hl
  exact ⟨c, k, i, f, a, cell, h1, h2, h3, h4, h5, h6, h7, h8, h9, hA a (Array.getElem?_eq_some_iff.mp h5).1⟩
theorem vx_isRef {C n d : String} {v : Value} {A : Nat → Prop} {s : State} {args : Array Value} (h : va_Z C n d v A s s.heap) (hv : v.isRef = true) : (Cond.isRef (.static C n d)).before args s = true := by
  obtain ⟨cf, kf, fi, f, a, cell, h1, h2, h3, h4, h5, h6, h7, -⟩ := h
  have he : (Term.static C n d).eval args s none [] s = some v := by
    simp [Term.eval, State.fieldNamed?, h1, h2, h4, h5, h6, h7]
  simp only [Cond.before, Cond.holds, Cond.value, he]
  cases v <;> simp_all [Value.isRef]
theorem vx_isRefq {C n d : String} {A : Nat → Prop} {s : State} {args : Array Value} (h : va_Zq C n d A s s.heap) : (Cond.isRef (.static C n d)).before args s = true := by
  rcases h with h | ⟨t, h⟩
  · exact vx_isRef h rfl
  · exact vx_isRef h rfl
/-- the same frame, seen from here: as if the method were called anew in this heap -/
theorem vx_rebase {T : State} (X : Stand p l e R s m args below meth c T locs cells slots) {R' : Room} (hf : R'.frames ≤ R.frames) (hl : R'.locals ≤ R.locals) (hc : cells + R'.cells ≤ R.cells) (hs : slots + R'.slots ≤ R.slots) :
    Stand p l e R' ((T.setVm s.vm).setFrames (.invoking m args :: below)) m args below meth c T [] 0 0 := by
  have htop : (T.setVm s.vm).topJava?.isSome := X.here.top
  have hF : ((T.setVm s.vm).setFrames (.invoking m args :: below)).frames = .invoking m args :: below := State.frames_setFrames _ (State.cur_lt_of_top htop)
  obtain ⟨g₀, hg0⟩ := Option.isSome_iff_exists.mp htop
  obtain ⟨r, hr⟩ := State.topJava?_eq_some.mp hg0
  have hl9 : e.platform.stackLimits (T.setVm s.vm).me = e.platform.stackLimits s.me := X.limits
  have hb9 : (T.setVm s.vm).me.stackBytes = s.me.stackBytes := X.bytes
  refine ⟨X.admits, X.cas, X.clock, hF, ?_, X.hears, X.method, X.code, X.here, X.tail, X.warmed, ?_, ?_, ?_⟩
  · have h := X.room
    have hU : ((T.setVm s.vm).setFrames (.invoking m args :: below)).localsInUse = s.localsInUse := by
      rw [State.localsInUse_invoking hF (meth := meth) (c := c) X.method X.code, State.localsInUse_invoking X.frames X.method X.code]
    simp only [State.hasRoom, Bool.and_eq_true, decide_eq_true_eq] at h ⊢
    obtain ⟨⟨⟨⟨h1, h2, h3, h4, h5, h6⟩, h7⟩, h8⟩, h9⟩ := h
    rw [X.frames, List.length_cons] at h2 h3
    have q1 := X.heapSize
    have q2 := X.used
    simp only [hF, hU, List.length_cons, State.stackLimits_setFrames, State.stackBytes_setFrames, hl9, hb9]
    refine ⟨⟨⟨⟨by omega, by omega, by omega, by omega, by omega, h6⟩, ?_⟩, ?_⟩, X.book⟩
    · show T.heap.size + R'.cells ≤ e.platform.maxCells
      omega
    · show T.slotsUsed + R'.slots ≤ e.platform.maxSlots
      omega
  · rw [State.stackLimits_setFrames]; rfl
  · rw [State.stackBytes_setFrames]; rfl
  · refine ⟨?_, Nat.le_refl _, Nat.le_refl _, ?_, ?_, fun a c9 h9 => ⟨c9, h9, rfl, rfl, fun _ _ => rfl⟩⟩
    · obtain ⟨t, ht, -⟩ := State.frames_cons hr
      show T.setVm s.vm = { ((T.setVm s.vm).setFrames (.invoking m args :: below)).setFrames (T.setVm s.vm).frames with heap := T.heap, slotsUsed := T.slotsUsed }
      rw [State.setFrames_setFrames, State.setFrames_self ht]
      rfl
    · show T.slotsUsed = T.slotsUsed + ((T.heap.toList.drop T.heap.size).map (·.slots.size)).sum
      rw [List.drop_eq_nil_of_le (Nat.le_of_eq Array.length_toList)]
      rfl
    · show ((T.heap.toList.drop T.heap.size).map (·.slots.size)).sum ≤ 0
      rw [List.drop_eq_nil_of_le (Nat.le_of_eq Array.length_toList)]
      exact Nat.le_refl _
/-- 'throw new E()': new; dup; invokespecial; athrow -/
theorem vx_throw0 {cc : ByteArray} {pc : Nat} (hexec : p.tables.exec = Jvm.exec) (hb : c.code = cc) (hl : l.stackTraces = false) {own cls : String} {names : List String} {ik ic mc ms : Nat} {A : Nat → Prop}
    (hown : s.vm.findClass own = some m.cls) (hcls : Bundle.fit cls = true) (hnames : ∀ n ∈ names, Bundle.fit n = true)
    (hk : (Cond.classLink own ik cls).before args s = true) (hini : (Cond.initialized cls).before args s = true) (hat : ∀ w ∈ vx_at0 own ic cls names, w.before args s = true)
    (hgood : ∀ w ∈ Cond.classLink own ik cls :: Cond.initialized cls :: vx_at0 own ic cls names, vx_ot w = true)
    (hU : vx_Zq Bundle.tN "UNASSIGNED_STACK" Bundle.steD A s s.heap) (hN : vx_Zq Bundle.tN "SUPPRESSED_SENTINEL" Bundle.listD A s s.heap) (hS : va_S A s.heap H locs) (hsize : ls.size = c.maxLocals)
    (d0 : decode cc pc = .ok (.new ik, 3)) (d3 : decode cc (pc + 3) = .ok (.dup, 1)) (d4 : decode cc (pc + 4) = .ok (.invokespecial ic, 3)) (d7 : decode cc (pc + 7) = .ok (.athrow, 1))
    (hout : ∀ x ∈ c.exceptionTable.toList, covers x (pc + 7) = false)
    (hRframes : names.length + 3 < R.frames) (hRlocals : (rest.map fun v => v.category).sum + (13 * (names.length + 1) + 42) ≤ R.locals) (hRcells : cells + 1 ≤ R.cells) (hRslots : slots + 6 ≤ R.slots) (hlocks : meth.locks = false)
    (hx : ∀ t : State, s.vm.Alike t.vm → H.size ≤ t.heap.size → (∀ q : Nat, q < H.size → t.heap[q]? = H[q]?) → XC cls s t)
    (hf : ∀ z ∈ locs, free z.base) (hc : cells + 1 ≤ mc) (hs : slots + 6 ≤ ms) :
    W p l e R s m args below meth c H locs cells slots (vx_MQ below Qc XC args s mc ms free) (F0 m pc ls rest) := by
  intro T hT X
  have htr : e.platform.stackTraces = false := (show e.platform.stackTraces = l.stackTraces by rw [X.admits.platform]).trans hl
  have Y := vx_rebase X (R' := { frames := R.frames, locals := R.locals, cells := 1, slots := 6 }) (Nat.le_refl _) (Nat.le_refl _) hRcells hRslots
  obtain ⟨s', hA⟩ : ∃ z, z = (T.setVm s.vm).setFrames (.invoking m args :: below) := ⟨_, rfl⟩
  rw [← hA] at Y
  have hvm : s'.vm = s.vm := by rw [hA]; rfl
  have hhp : s'.heap = H := by rw [hA]; exact hT
  have hW0 : s.WarmedH s'.vm := by rw [hvm]; exact State.WarmedH.refl s
  have hat' : ∀ w ∈ vx_at0 own ic cls names, w.before args s' = true := fun w hw => vx_ot_at hW0 hvm.symm (hgood w (List.mem_cons_of_mem _ (List.mem_cons_of_mem _ hw))) (hat w hw)
  have hk' : (Cond.classLink own ik cls).before args s' = true := vx_ot_at hW0 hvm.symm (hgood _ List.mem_cons_self) hk
  have hini' : (Cond.initialized cls).before args s' = true := vx_ot_at hW0 hvm.symm (hgood _ (List.mem_cons_of_mem _ List.mem_cons_self)) hini
  have hU' : vx_Zq Bundle.tN "UNASSIGNED_STACK" Bundle.steD A s' s'.heap := by rw [hhp]; exact vx_Zq.moved hW0.alike (hU.kept hS.2.1)
  have hN' : vx_Zq Bundle.tN "SUPPRESSED_SENTINEL" Bundle.listD A s' s'.heap := by rw [hhp]; exact vx_Zq.moved hW0.alike (hN.kept hS.2.1)
  have h : ∀ w ∈ Bundle.ownAtoms0 own ic cls names, w.before args s' = true := vx_own hat' (vx_isRefq hU'.1) (vx_isRefq hN'.1) hU'.2.word hN'.2.word
  have hown' : s'.vm.findClass own = some m.cls := by rw [hvm]; exact hown
  have hins : (Cond.instantiable cls 6).before args s' = true := h _ (by simp [Bundle.ownAtoms0])
  obtain ⟨vm₁, cX, kX, hfX, hkX, -, -, X₁, st1⟩ := Y.newCold hexec (own := own) (C := cls) (index := ik) (n := 6) hown' hk' hins hini'
    (g := F0 m pc ls rest) rfl (by rw [hb]; exact d0) (Nat.le_refl _) (Nat.le_refl _)
  generalize hT1 : (T.setVm vm₁).pushCell { cls := cX, slots := kX.instanceTypes.map defaultValue, vm := .none } = T1 at X₁ st1
  have hcat : (Value.ref T.heap.size).category = 1 := rfl
  have hcellA : T1.heap[T.heap.size]? = some (freshCell cX kX) := by rw [← hT1]; exact State.heap_pushCell_size _ _
  have d3' : decode c.code (pc + 3) = .ok (.dup, 1) := by rw [hb]; exact d3
  obtain ⟨U, hsteps, hrun, hend, hW, hsame, ce, hce, hO⟩ := X₁.ctorThrow0 hexec htr (own := own) (cls := cls) (names := names) (ic := ic) hown' hcls hnames h (fun x hx => nomatch hx) hfX hkX hcellA (by rw [hhp, hT]; exact Nat.le_refl _)
    (g := { method := m, pc := pc + 4, locals := ls, stack := .ref T.heap.size :: .ref T.heap.size :: rest, locked := none }) rfl hsize rfl rfl (rest := rest) rfl
    (by rw [hb]; exact d4) (by rw [hb]; exact d7) hout hRframes (by simp only [List.map_cons, List.sum_cons, hcat]; omega) hlocks
  obtain ⟨f1, f2⟩ := vx_frame hsame
  rw [hhp] at f1 f2
  have hWs : s.WarmedH U.vm := State.WarmedH.trans hW0 hW
  have hcl : s.vm.findClass cls = some ce.cls := by
    have h9 := hO.cls
    rw [hvm] at h9
    exact h9
  have hall : s.sameButNew ({ U with vm := s.vm } : State) locs mc ms := by
    subst hA
    obtain ⟨e1, e2⟩ := hsame
    rw [State.setFrames_setFrames] at e1
    have h2 : (T.setVm s.vm).sameButNew ({ U with vm := s.vm } : State) [] (0 + 1) (0 + 6) := ⟨e1, e2⟩
    have h3 := X.same.trans h2
    rw [List.append_nil] at h3
    exact h3.mono hc hs
  refine ⟨U, ?_, .threw T.heap.size, hrun, hend, Or.inr ⟨T.heap.size, rfl, cls, ce, locs, hx U hWs.alike f1 (fun q hq => f2 q hq (fun z hz => nomatch hz)), hce, hO.vm, hcl, hWs, hall, hf⟩⟩
  refine st1 _ ?_
  show Steps p.tables e below (T1.setTop { method := m, pc := pc + 3, locals := ls, stack := .ref T.heap.size :: rest, locked := none }) _
  jvm_step X₁.here [X₁.here.top, hexec, d3', Value.category]
  exact hsteps
/-- 'throw new E("text")': new; dup; ldc; invokespecial; athrow -/
theorem vx_throwS {cc : ByteArray} {pc : Nat} (hexec : p.tables.exec = Jvm.exec) (hb : c.code = cc) (hl : l.stackTraces = false) {own cls text : String} {names : List String} {ik is ic mc ms sa : Nat} {A : Nat → Prop}
    (hown : s.vm.findClass own = some m.cls) (hcls : Bundle.fit cls = true) (hnames : ∀ n ∈ names, Bundle.fit n = true)
    (hk : (Cond.classLink own ik cls).before args s = true) (hini : (Cond.initialized cls).before args s = true) (hstr : vk_R own is text sa s) (hat : ∀ w ∈ vx_atS own ic cls names, w.before args s = true)
    (hgood : ∀ w ∈ Cond.classLink own ik cls :: Cond.initialized cls :: vx_atS own ic cls names, vx_ot w = true)
    (hU : vx_Zq Bundle.tN "UNASSIGNED_STACK" Bundle.steD A s s.heap) (hN : vx_Zq Bundle.tN "SUPPRESSED_SENTINEL" Bundle.listD A s s.heap) (hS : va_S A s.heap H locs) (hsize : ls.size = c.maxLocals)
    (d0 : decode cc pc = .ok (.new ik, 3)) (d3 : decode cc (pc + 3) = .ok (.dup, 1)) (d4 : decode cc (pc + 4) = .ok (.ldc is, 2)) (d6 : decode cc (pc + 6) = .ok (.invokespecial ic, 3)) (d9 : decode cc (pc + 9) = .ok (.athrow, 1))
    (hout : ∀ x ∈ c.exceptionTable.toList, covers x (pc + 9) = false)
    (hRframes : names.length + 3 < R.frames) (hRlocals : (rest.map fun v => v.category).sum + (13 * (names.length + 1) + 43) ≤ R.locals) (hRcells : cells + 1 ≤ R.cells) (hRslots : slots + 6 ≤ R.slots) (hlocks : meth.locks = false)
    (hx : ∀ t : State, s.vm.Alike t.vm → H.size ≤ t.heap.size → (∀ q : Nat, q < H.size → t.heap[q]? = H[q]?) → XC cls s t)
    (hf : ∀ z ∈ locs, free z.base) (hc : cells + 1 ≤ mc) (hs : slots + 6 ≤ ms) :
    W p l e R s m args below meth c H locs cells slots (vx_MQ below Qc XC args s mc ms free) (F0 m pc ls rest) := by
  intro T hT X
  have htr : e.platform.stackTraces = false := (show e.platform.stackTraces = l.stackTraces by rw [X.admits.platform]).trans hl
  have Y := vx_rebase X (R' := { frames := R.frames, locals := R.locals, cells := 1, slots := 6 }) (Nat.le_refl _) (Nat.le_refl _) hRcells hRslots
  obtain ⟨s', hA⟩ : ∃ z, z = (T.setVm s.vm).setFrames (.invoking m args :: below) := ⟨_, rfl⟩
  rw [← hA] at Y
  have hvm : s'.vm = s.vm := by rw [hA]; rfl
  have hhp : s'.heap = H := by rw [hA]; exact hT
  have hW0 : s.WarmedH s'.vm := by rw [hvm]; exact State.WarmedH.refl s
  have hat' : ∀ w ∈ vx_atS own ic cls names, w.before args s' = true := fun w hw => vx_ot_at hW0 hvm.symm (hgood w (List.mem_cons_of_mem _ (List.mem_cons_of_mem _ hw))) (hat w hw)
  have hk' : (Cond.classLink own ik cls).before args s' = true := vx_ot_at hW0 hvm.symm (hgood _ List.mem_cons_self) hk
  have hini' : (Cond.initialized cls).before args s' = true := vx_ot_at hW0 hvm.symm (hgood _ (List.mem_cons_of_mem _ List.mem_cons_self)) hini
  have hU' : vx_Zq Bundle.tN "UNASSIGNED_STACK" Bundle.steD A s' s'.heap := by rw [hhp]; exact vx_Zq.moved hW0.alike (hU.kept hS.2.1)
  have hN' : vx_Zq Bundle.tN "SUPPRESSED_SENTINEL" Bundle.listD A s' s'.heap := by rw [hhp]; exact vx_Zq.moved hW0.alike (hN.kept hS.2.1)
  have h : ∀ w ∈ Bundle.ownAtoms own ic cls names, w.before args s' = true := vx_own hat' (vx_isRefq hU'.1) (vx_isRefq hN'.1) hU'.2.word hN'.2.word
  have hown' : s'.vm.findClass own = some m.cls := by rw [hvm]; exact hown
  have hins : (Cond.instantiable cls 6).before args s' = true := h _ (by simp [Bundle.ownAtoms])
  obtain ⟨vm₁, cX, kX, hfX, hkX, -, -, X₁, st1⟩ := Y.newCold hexec (own := own) (C := cls) (index := ik) (n := 6) hown' hk' hins hini'
    (g := F0 m pc ls rest) rfl (by rw [hb]; exact d0) (Nat.le_refl _) (Nat.le_refl _)
  generalize hT1 : (T.setVm vm₁).pushCell { cls := cX, slots := kX.instanceTypes.map defaultValue, vm := .none } = T1 at X₁ st1
  have hcat : (Value.ref T.heap.size).category = 1 := rfl
  have hcellA : T1.heap[T.heap.size]? = some (freshCell cX kX) := by rw [← hT1]; exact State.heap_pushCell_size _ _
  have d3' : decode c.code (pc + 3) = .ok (.dup, 1) := by rw [hb]; exact d3
  have d4' : decode c.code (pc + 4) = .ok (.ldc is, 2) := by rw [hb]; exact d4
  have hstr' : vk_R own is text sa s' := vk_R.warm hW0 hstr
  obtain ⟨U, hsteps, hrun, hend, hW, hsame, ce, hce, hO⟩ := X₁.ctorThrowS hexec htr (own := own) (cls := cls) (names := names) (ic := ic) hown' hcls hnames h (fun x hx => nomatch hx) hfX hkX hcellA (by rw [hhp, hT]; exact Nat.le_refl _) (msg := .ref sa) rfl
    (g := { method := m, pc := pc + 6, locals := ls, stack := .ref sa :: .ref T.heap.size :: .ref T.heap.size :: rest, locked := none }) rfl hsize rfl rfl (rest := rest) rfl
    (by rw [hb]; exact d6) (by rw [hb]; exact d9) hout hRframes (by simp only [List.map_cons, List.sum_cons, hcat]; omega) hlocks
  obtain ⟨f1, f2⟩ := vx_frame hsame
  rw [hhp] at f1 f2
  have hWs : s.WarmedH U.vm := State.WarmedH.trans hW0 hW
  have hcl : s.vm.findClass cls = some ce.cls := by
    have h9 := hO.cls
    rw [hvm] at h9
    exact h9
  have hall : s.sameButNew ({ U with vm := s.vm } : State) locs mc ms := by
    subst hA
    obtain ⟨e1, e2⟩ := hsame
    rw [State.setFrames_setFrames] at e1
    have h2 : (T.setVm s.vm).sameButNew ({ U with vm := s.vm } : State) [] (0 + 1) (0 + 6) := ⟨e1, e2⟩
    have h3 := X.same.trans h2
    rw [List.append_nil] at h3
    exact h3.mono hc hs
  refine ⟨U, ?_, .threw T.heap.size, hrun, hend, Or.inr ⟨T.heap.size, rfl, cls, ce, locs, hx U hWs.alike f1 (fun q hq => f2 q hq (fun z hz => nomatch hz)), hce, hO.vm, hcl, hWs, hall, hf⟩⟩
  refine st1 _ ?_
  show Steps p.tables e below (T1.setTop { method := m, pc := pc + 3, locals := ls, stack := .ref T.heap.size :: rest, locked := none }) _
  jvm_step X₁.here [X₁.here.top, hexec, d3', Value.category]
  exact X₁.ldcString hexec (own := own) (text := text) (index := is) (a := sa) hown' hstr'.1 hstr'.2
    (g := { method := m, pc := pc + 4, locals := ls, stack := .ref T.heap.size :: .ref T.heap.size :: rest, locked := none }) rfl d4' _ hsteps
/-- 'throw new E("text")', the text by a wide index -/
theorem vx_throwSW {cc : ByteArray} {pc : Nat} (hexec : p.tables.exec = Jvm.exec) (hb : c.code = cc) (hl : l.stackTraces = false) {own cls text : String} {names : List String} {ik is ic mc ms sa : Nat} {A : Nat → Prop}
    (hown : s.vm.findClass own = some m.cls) (hcls : Bundle.fit cls = true) (hnames : ∀ n ∈ names, Bundle.fit n = true)
    (hk : (Cond.classLink own ik cls).before args s = true) (hini : (Cond.initialized cls).before args s = true) (hstr : vk_R own is text sa s) (hat : ∀ w ∈ vx_atS own ic cls names, w.before args s = true)
    (hgood : ∀ w ∈ Cond.classLink own ik cls :: Cond.initialized cls :: vx_atS own ic cls names, vx_ot w = true)
    (hU : vx_Zq Bundle.tN "UNASSIGNED_STACK" Bundle.steD A s s.heap) (hN : vx_Zq Bundle.tN "SUPPRESSED_SENTINEL" Bundle.listD A s s.heap) (hS : va_S A s.heap H locs) (hsize : ls.size = c.maxLocals)
    (d0 : decode cc pc = .ok (.new ik, 3)) (d3 : decode cc (pc + 3) = .ok (.dup, 1)) (d4 : decode cc (pc + 4) = .ok (.ldc_w is, 3)) (d7 : decode cc (pc + 7) = .ok (.invokespecial ic, 3)) (d10 : decode cc (pc + 10) = .ok (.athrow, 1))
    (hout : ∀ x ∈ c.exceptionTable.toList, covers x (pc + 10) = false)
    (hRframes : names.length + 3 < R.frames) (hRlocals : (rest.map fun v => v.category).sum + (13 * (names.length + 1) + 43) ≤ R.locals) (hRcells : cells + 1 ≤ R.cells) (hRslots : slots + 6 ≤ R.slots) (hlocks : meth.locks = false)
    (hx : ∀ t : State, s.vm.Alike t.vm → H.size ≤ t.heap.size → (∀ q : Nat, q < H.size → t.heap[q]? = H[q]?) → XC cls s t)
    (hf : ∀ z ∈ locs, free z.base) (hc : cells + 1 ≤ mc) (hs : slots + 6 ≤ ms) :
    W p l e R s m args below meth c H locs cells slots (vx_MQ below Qc XC args s mc ms free) (F0 m pc ls rest) := by
  intro T hT X
  have htr : e.platform.stackTraces = false := (show e.platform.stackTraces = l.stackTraces by rw [X.admits.platform]).trans hl
  have Y := vx_rebase X (R' := { frames := R.frames, locals := R.locals, cells := 1, slots := 6 }) (Nat.le_refl _) (Nat.le_refl _) hRcells hRslots
  obtain ⟨s', hA⟩ : ∃ z, z = (T.setVm s.vm).setFrames (.invoking m args :: below) := ⟨_, rfl⟩
  rw [← hA] at Y
  have hvm : s'.vm = s.vm := by rw [hA]; rfl
  have hhp : s'.heap = H := by rw [hA]; exact hT
  have hW0 : s.WarmedH s'.vm := by rw [hvm]; exact State.WarmedH.refl s
  have hat' : ∀ w ∈ vx_atS own ic cls names, w.before args s' = true := fun w hw => vx_ot_at hW0 hvm.symm (hgood w (List.mem_cons_of_mem _ (List.mem_cons_of_mem _ hw))) (hat w hw)
  have hk' : (Cond.classLink own ik cls).before args s' = true := vx_ot_at hW0 hvm.symm (hgood _ List.mem_cons_self) hk
  have hini' : (Cond.initialized cls).before args s' = true := vx_ot_at hW0 hvm.symm (hgood _ (List.mem_cons_of_mem _ List.mem_cons_self)) hini
  have hU' : vx_Zq Bundle.tN "UNASSIGNED_STACK" Bundle.steD A s' s'.heap := by rw [hhp]; exact vx_Zq.moved hW0.alike (hU.kept hS.2.1)
  have hN' : vx_Zq Bundle.tN "SUPPRESSED_SENTINEL" Bundle.listD A s' s'.heap := by rw [hhp]; exact vx_Zq.moved hW0.alike (hN.kept hS.2.1)
  have h : ∀ w ∈ Bundle.ownAtoms own ic cls names, w.before args s' = true := vx_own hat' (vx_isRefq hU'.1) (vx_isRefq hN'.1) hU'.2.word hN'.2.word
  have hown' : s'.vm.findClass own = some m.cls := by rw [hvm]; exact hown
  have hins : (Cond.instantiable cls 6).before args s' = true := h _ (by simp [Bundle.ownAtoms])
  obtain ⟨vm₁, cX, kX, hfX, hkX, -, -, X₁, st1⟩ := Y.newCold hexec (own := own) (C := cls) (index := ik) (n := 6) hown' hk' hins hini'
    (g := F0 m pc ls rest) rfl (by rw [hb]; exact d0) (Nat.le_refl _) (Nat.le_refl _)
  generalize hT1 : (T.setVm vm₁).pushCell { cls := cX, slots := kX.instanceTypes.map defaultValue, vm := .none } = T1 at X₁ st1
  have hcat : (Value.ref T.heap.size).category = 1 := rfl
  have hcellA : T1.heap[T.heap.size]? = some (freshCell cX kX) := by rw [← hT1]; exact State.heap_pushCell_size _ _
  have d3' : decode c.code (pc + 3) = .ok (.dup, 1) := by rw [hb]; exact d3
  have d4' : decode c.code (pc + 4) = .ok (.ldc_w is, 3) := by rw [hb]; exact d4
  have hstr' : vk_R own is text sa s' := vk_R.warm hW0 hstr
  obtain ⟨U, hsteps, hrun, hend, hW, hsame, ce, hce, hO⟩ := X₁.ctorThrowS hexec htr (own := own) (cls := cls) (names := names) (ic := ic) hown' hcls hnames h (fun x hx => nomatch hx) hfX hkX hcellA (by rw [hhp, hT]; exact Nat.le_refl _) (msg := .ref sa) rfl
    (g := { method := m, pc := pc + 7, locals := ls, stack := .ref sa :: .ref T.heap.size :: .ref T.heap.size :: rest, locked := none }) rfl hsize rfl rfl (rest := rest) rfl
    (by rw [hb]; exact d7) (by rw [hb]; exact d10) hout hRframes (by simp only [List.map_cons, List.sum_cons, hcat]; omega) hlocks
  obtain ⟨f1, f2⟩ := vx_frame hsame
  rw [hhp] at f1 f2
  have hWs : s.WarmedH U.vm := State.WarmedH.trans hW0 hW
  have hcl : s.vm.findClass cls = some ce.cls := by
    have h9 := hO.cls
    rw [hvm] at h9
    exact h9
  have hall : s.sameButNew ({ U with vm := s.vm } : State) locs mc ms := by
    subst hA
    obtain ⟨e1, e2⟩ := hsame
    rw [State.setFrames_setFrames] at e1
    have h2 : (T.setVm s.vm).sameButNew ({ U with vm := s.vm } : State) [] (0 + 1) (0 + 6) := ⟨e1, e2⟩
    have h3 := X.same.trans h2
    rw [List.append_nil] at h3
    exact h3.mono hc hs
  refine ⟨U, ?_, .threw T.heap.size, hrun, hend, Or.inr ⟨T.heap.size, rfl, cls, ce, locs, hx U hWs.alike f1 (fun q hq => f2 q hq (fun z hz => nomatch hz)), hce, hO.vm, hcl, hWs, hall, hf⟩⟩
  refine st1 _ ?_
  show Steps p.tables e below (T1.setTop { method := m, pc := pc + 3, locals := ls, stack := .ref T.heap.size :: rest, locked := none }) _
  jvm_step X₁.here [X₁.here.top, hexec, d3', Value.category]
  exact X₁.ldcStringW hexec (own := own) (text := text) (index := is) (a := sa) hown' hstr'.1 hstr'.2
    (g := { method := m, pc := pc + 4, locals := ls, stack := .ref T.heap.size :: .ref T.heap.size :: rest, locked := none }) rfl d4' _ hsteps
end Ends
section Bodies
variable {l : Launch}
theorem vx_ofW {y : MethodName} {ws ws' : List Cond} {rm : Room} {Pc : Array Value → State → Prop} {Qc : Array Value → State → Outcome → State → Prop} {XC : String → State → State → Prop} {mc ms : Nat} {free : Addr → Prop} {cc : ByteArray} {maxL : Nat} {ret : Option FieldType}
    (hy : plainName y.cls = true) (hw : ws = Cond.code y cc maxL ret :: ws')
    (body : ∀ p e s m args below meth c s₁, BodyLoose p l y (headSpec ws rm) cc maxL ret e s m args below meth c s₁ → c.maxLocals = maxL → (∀ x ∈ c.exceptionTable.toList, False) → Pc args s →
      W p l e (headSpec ws rm).room s m args below meth c s.heap [] 0 0 (vx_MQ below Qc XC args s mc ms free) (entryFrame m args maxL)) : vx_Met l y ws rm Pc Qc XC mc ms free := by
  refine MetFree.of_bodyS (code := cc) (maxLocals := maxL) (ret := ret) hy ?_ ?_
  · intro args s m h hn
    obtain ⟨meth, c, h1, h2, h3, h4, h5, h6, -, -⟩ := Cond.code_spec hn (atoms_spec (ws := ws) h _ (by rw [hw]; exact List.mem_cons_self))
    exact ⟨meth, c, h1, h2, h3, h4, h5, h6⟩
  · intro p e s m args below meth c s₁ B hml hP _
    have hh0 : s₁.heap = s.heap := by rw [B.state]; rfl
    have ht : ∀ x ∈ c.exceptionTable.toList, False := by
      obtain ⟨meth9, c9, h1, h2, -, -, -, -, h7, -⟩ := Cond.code_spec B.named (atoms_spec (ws := ws) B.pre _ (by rw [hw]; exact List.mem_cons_self))
      cases Option.some.inj (h1.symm.trans B.method)
      cases Option.some.inj (h2.symm.trans (Stand.of_body B).code)
      intro x hx
      rw [Array.isEmpty_iff.mp h7] at hx
      cases hx
    obtain ⟨t, a1, o, b1, b2, b3⟩ := body p e s m args below meth c s₁ B hml ht hP s₁ hh0 (Stand.of_body B)
    exact ⟨t, o, a1, b1, b2, b3⟩
/-- the table of a body with handlers -/
theorem vx_table {p : Program} {x y : MethodName} {S : Spec} {cc bytes : ByteArray} {maxL maxL' : Nat} {ret ret' : Option FieldType} {e : Env} {s s₁ : State} {m : MethodId} {args : Array Value} {below : List Frame} {meth : Method} {c : Code} {hh : List (Nat × Nat × Nat × Nat)}
    (B : BodyLoose p l y S cc maxL ret e s m args below meth c s₁) (h : (Cond.codeWith y bytes maxL' ret' hh).before args s = true) : c.exceptionTable.toList = tableOf hh := by
  obtain ⟨m9, meth9, c9, hn9, h1, h2, -, -, h6, -⟩ := Cond.codeWith_spec h
  cases Option.some.inj (hn9.symm.trans B.named)
  cases Option.some.inj (h1.symm.trans B.method)
  cases Option.some.inj (h2.symm.trans (Stand.of_body B).code)
  rw [← h6, table_eq]
end Bodies
end VXA
/-! ===== END ===== -/
/-! ===== BEGIN a static call of a method with an exception table ===== -/
section VXS
variable {p : Program} {l : Launch} {e : Env} {R : Room} {s : State} {m : MethodId} {args : Array Value} {below : List Frame} {meth : Method} {c : Code} {T : State} {H : Heap} {locs : List Loc} {cells slots : Nat}
abbrev vx_CSW (R : Room) (s : State) (args : Array Value) (own : String) (index : Nat) (y : MethodName) (bytes : ByteArray) (maxL : Nat) (ret : Option FieldType) (hh : List (Nat × Nat × Nat × Nat)) (ws : List Cond) (rm : Room) (mc ms n : Nat) : Prop :=
  (rm.cells = mc ∧ rm.slots = ms ∧ rm.frames + 1 ≤ R.frames ∧ 8 + (maxL + 11) + rm.locals ≤ R.locals ∧ (∀ w ∈ ws, ∀ (a' : Array Value) (U : State), s.WarmedH U.vm → w.before a' U = true) ∧ Cond.codeWith y bytes maxL ret hh ∈ ws) ∧
  (Cond.codeWith y bytes maxL ret hh).before args s = true ∧ (Cond.initialized y.cls).before args s = true ∧ (y.cls ≠ "java/lang/invoke/MethodHandle" ∧ y.cls ≠ "java/lang/invoke/VarHandle") ∧
  (∀ sig, parseMethodDescriptor y.desc = some sig → n = sig.parameters.length) ∧ (Cond.methodLink own index y).before args s = true ∧ (Cond.static y).before args s = true
theorem vx_cwSW {own : String} {index maxL mc ms : Nat} {y : MethodName} {bytes : ByteArray} {ret : Option FieldType} {hh : List (Nat × Nat × Nat × Nat)} {Ts ws ws' : List Cond} {rm : Room} (n : Nat) (ht : ∀ w ∈ Ts, w.before args s = true) (hT : GoodIn Ts (va_wsS own index y ws)) (hw : ws = Cond.codeWith y bytes maxL ret hh :: ws') (hrc : rm.cells = mc) (hrs : rm.slots = ms)
    (hd : y.cls ≠ "java/lang/invoke/MethodHandle" ∧ y.cls ≠ "java/lang/invoke/VarHandle" ∧ (parseMethodDescriptor y.desc).map (fun d => d.parameters.length) = some n) (hR : rm.frames + 1 ≤ R.frames ∧ 8 + (maxL + 11) + rm.locals ≤ R.locals) :
    vx_CSW R s args own index y bytes maxL ret hh ws rm mc ms n := by
  have ok : ∀ w ∈ va_wsS own index y ws, w.before args s = true := fun w h => ht w (hT w h).1
  have hG : GoodIn Ts ws := fun w h => hT w (by unfold va_wsS; exact List.mem_append_right _ h)
  have hc : Cond.codeWith y bytes maxL ret hh ∈ ws := by rw [hw]; exact List.mem_cons_self
  refine ⟨⟨hrc, hrs, hR.1, hR.2, pay_in ht hG, hc⟩, ht _ (hG _ hc).1, ok _ (by simp [va_wsS]), ⟨hd.1, hd.2.1⟩, fun sig h => ?_, ok _ (by simp [va_wsS]), ok _ (by simp [va_wsS])⟩
  have h2 := hd.2.2
  rw [h] at h2
  exact (Option.some.inj h2).symm
theorem vx_callSW (X : Stand p l e R s m args below meth c T locs cells slots) (hexec : p.tables.exec = Jvm.exec) {own : String} {index : Nat} {y : MethodName} {bytes : ByteArray} {maxL : Nat} {ret : Option FieldType} {hh : List (Nat × Nat × Nat × Nat)}
    (hown : s.vm.findClass own = some m.cls) (hlink : (Cond.methodLink own index y).before args s = true) (hstat : (Cond.static y).before args s = true) (hinit : (Cond.initialized y.cls).before args s = true)
    (hcode : (Cond.codeWith y bytes maxL ret hh).before args s = true) (hy : y.cls ≠ "java/lang/invoke/MethodHandle" ∧ y.cls ≠ "java/lang/invoke/VarHandle")
    {W9 : Nat} {Pre : Pt → Array Value → Prop} {Post : Pt → Array Value → Option Value → Pt → Prop} (hK : Back l R p e below s args y 3 W9 Pre Post)
    {g : JFrame} (hg : g.method = m) (hsize : g.locals.size = c.maxLocals) {argsL rest : List Value} (hlen : ∀ sig, parseMethodDescriptor y.desc = some sig → argsL.length = sig.parameters.length)
    (hstack : g.stack = argsL.reverse ++ rest) (hW : 2 * g.monitorRoom + (rest.map fun v => v.category).sum ≤ W9) (hdg : decode c.code g.pc = .ok (.invokestatic index, 3))
    (hpre : ∀ vm₁, s.WarmedH vm₁ → Pre ⟨T.setVm vm₁, locs, cells, slots⟩ argsL.toArray) :
    ∃ (v : Option Value) (vm₁ : Vm) (B : Pt), s.WarmedH vm₁ ∧ Stand p l e R s m args below meth c B.U B.locs B.cells B.slots ∧ Post ⟨T.setVm vm₁, locs, cells, slots⟩ argsL.toArray v B ∧
      ∀ target, Steps p.tables e below (B.U.setTop { g with pc := g.pc + 3, stack := v.toList ++ rest }) target → Steps p.tables e below (T.setTop g) target := by
  obtain ⟨mk, methM, cM, hnamed, hmethM, -, -, -, -, -, -, hsigM⟩ := Cond.codeWith_spec hcode
  have hstatic : methM.isStatic = true := Cond.static_spec hnamed hmethM hstat
  obtain ⟨kP, hkP, -⟩ := className_of_methodNamed hnamed
  have hinitP : kP.init = .initialized := Cond.initialized_spec (findClass_of_methodNamed hnamed) hkP hinit
  obtain ⟨vm₁, X₁, hstep₁⟩ := X.invokestatic hexec hown hlink hnamed hmethM hstatic hkP hinitP hy (g := g) hg (argsL := argsL) (rest := rest) (hlen _ hsigM) hstack hdg
  obtain ⟨v, B, X', hpost, hsteps⟩ := hK m meth c ⟨T.setVm vm₁, locs, cells, slots⟩ { g with stack := rest } (.invokestatic index) mk argsL.toArray X₁ hg hsize hdg hW (X₁.named hnamed) (hpre vm₁ X₁.warmed)
  exact ⟨v, vm₁, B, X₁.warmed, X', hpost, fun target h => hstep₁ _ fun acts => by rw [doInvoke_state]; exact hsteps.trans h⟩
theorem vx_runSW {y : MethodName} {bytes cc : ByteArray} {maxL nL mc ms n index : Nat} {ret : Option FieldType} {hh : List (Nat × Nat × Nat × Nat)} {ws : List Cond} {rm : Room} {Pc : Array Value → State → Prop} {Qc : Array Value → State → Outcome → State → Prop} {free : Addr → Prop} {Ts : List Cond} {own : String} {As rest : List Value} {g : JFrame}
    (S : CallFix p m c cc nL s args Ts own) (hM : Met l y ws rm Pc Qc mc ms free) (cw : vx_CSW R s args own index y bytes maxL ret hh ws rm mc ms n) (hp : PreS s H Pc As)
    (hg : g.method = m) (hn : As.length = n) (hsize : g.locals.size = nL) (hstack : g.stack = As.reverse ++ rest) (hW : 2 * g.monitorRoom + (rest.map fun v => v.category).sum ≤ 8) (hdg : decode cc g.pc = .ok (.invokestatic index, 3)) (hf : cells + mc ≤ R.cells ∧ slots + ms ≤ R.slots) :
    va_Run p l e R s m args below meth c H locs cells slots mc ms g rest (Qc As.toArray) (free) := by
  obtain ⟨⟨hrc, hrs, hfr, hlo, hws, hcw⟩, hcode, hini, hy, hlen, hl, hstt⟩ := cw
  have hK : Back l R p e below s args y 3 8 (PreOf R mc ms Pc) (PostOf Qc mc ms free) := va_backW (hh := hh) (bytes := bytes) (maxL := maxL) (ret := ret) hM hp.1 hrc hrs hfr hlo hws hcw (fun a' U hW => word_at hW (Or.inl (by first | rfl | simp [Cond.onTables, Cond.keeps, Cond.steady])) hini)
  obtain ⟨hx, hb, hml, ho, -⟩ := S
  intro T hT X
  obtain ⟨v, vm₁, ⟨U', l2, c2, s2⟩, hW₁, X', ⟨g', mk, t, L, e1, e2, hq, h1, hL, h2, h3⟩, st⟩ := vx_callSW X hx (hh := hh) (bytes := bytes) (maxL := maxL) (ret := ret) ho hl hstt hini hcode hy hK hg (hsize.trans hml.symm) (argsL := As) (rest := rest) (fun sig h => hn.trans (hlen sig h)) hstack hW (by rw [hb]; exact hdg)
    (fun vm₁ hW₁ => ⟨hf.1, hf.2, hp.2 (T.setVm vm₁) hT hW₁⟩)
  dsimp only [Pt.U, Pt.locs, Pt.cells, Pt.slots] at X' e1 e2 h1 h2 h3 st
  subst h1; subst h2; subst h3
  exact ⟨v, (T.setVm vm₁).calling g' mk As.toArray, t, U', L, hT, X', hL, e1, e2, hq, st⟩
theorem kx_true : True := trivial
/-- a thing of a world lies in the heap -/
theorem vx_lt {D : va_G} {cl : List vw_C} {ws : va_W} {H1 : Heap} (h : va_P D cl ws H1) {k : Nat} {q : Nat × va_E} (hk : ws[k]? = some q) : q.1 < H1.size := (h k q hk).lt
end VXS
/-! ===== END ===== -/
/-! ===== BEGIN methods with a table of their own: called by a name, returning or throwing ===== -/
section VXH
/-! vx_backW, vx_callVX, vx_callSX, vx_callVW, vx_runVW, vx_runVX, vx_runSX, vx_ofWH follow the same proofs as their sisters above (Free/Laws.lean, Shelf42/LK1.lean); vx_outP calls Shelf42/NT130.lean (outThrough). -/
section
variable {l : Launch} {R : Room} {p : Program} {e : Env} {below : List Frame} {s : State} {sargs : Array Value} {y : MethodName} {len W9 : Nat}
theorem vx_backW {ws : List Cond} {rm : Room} {Pc : Array Value → State → Prop} {Qc : Array Value → State → Outcome → State → Prop} {XC : String → State → State → Prop} {mc ms : Nat} {free : Addr → Prop} {bytes : ByteArray} {maxL : Nat} {ret : Option FieldType} {hh : List (Nat × Nat × Nat × Nat)}
    (hM : vx_Met l y ws rm Pc Qc XC mc ms free) (hblind : FrameBlind Pc) (hrc : rm.cells = mc) (hrs : rm.slots = ms)
    (hframes : rm.frames + 1 ≤ R.frames) (hlocals : W9 + (maxL + 11) + rm.locals ≤ R.locals)
    (hws : ∀ w ∈ ws, ∀ a' U, s.WarmedH U.vm → w.before a' U = true) (hcode : Cond.codeWith y bytes maxL ret hh ∈ ws) (hinit : ∀ a' U, s.WarmedH U.vm → (Cond.initialized y.cls).before a' U = true) :
    vx_Back l R p e below s sargs y len W9 (PreOf R mc ms Pc) (PostOf Qc mc ms free) (vx_Post XC mc ms free) := by
  intro m meth c A g ig mk a X hg hsize hdg hW hn hp
  have h1 : (headSpec ws rm).pre.before a A.U = true := atoms_intro fun w hw => hws w hw _ _ X.warmed
  have h2 : (Cond.codeWith y bytes maxL ret hh).before a A.U = true := hws _ hcode _ _ X.warmed
  have h3 : (Cond.initialized y.cls).before a A.U = true := hinit _ _ X.warmed
  have h4 : A.cells + (headSpec ws rm).room.cells ≤ R.cells := by rw [show (headSpec ws rm).room.cells = mc from hrc]; exact hp.1
  have h5 : A.slots + (headSpec ws rm).room.slots ≤ R.slots := by rw [show (headSpec ws rm).room.slots = ms from hrs]; exact hp.2.1
  have hPc : Pc a (A.U.calling g mk a) := hblind _ _ _ _ hp.2.2
  obtain ⟨U, Ls, c0, s0⟩ := A
  dsimp only [Pt.U, Pt.locs, Pt.cells, Pt.slots] at h1 h2 h3 h4 h5 X hn hPc ⊢
  obtain ⟨m9, methY, cY, hn9, hmY, hcY, -, hlY, -⟩ := Cond.codeWith_spec h2
  cases Option.some.inj (hn9.symm.trans hn)
  obtain ⟨kY, hkY, -⟩ := className_of_methodNamed hn
  have hinitY : kY.init = .initialized := Cond.initialized_spec (findClass_of_methodNamed hn) hkY h3
  have h : At U g.method c below := by rw [hg]; exact X.here
  have hlocals9 : W9 + (maxL + 11) + (headSpec ws rm).room.locals ≤ R.locals := hlocals
  have happ : (headSpec ws rm).appliesLoose y e.platform (U.calling g mk a) = true :=
    Spec.appliesLoose_calling (g := g) h hdg hn hkY hinitY
      (X.room_calling (g := g) (R' := (headSpec ws rm).room) hsize hmY hcY hframes (by rw [hlY]; omega) h4 h5) h1
  obtain ⟨mid, hmid⟩ := h.above
  have hfr : (U.setTop g).frames = (.java g :: mid) ++ below := by rw [State.frames_setTop' g h.top, hmid]; rfl
  obtain ⟨o, s₂, hsteps, -, hend, hq⟩ := Steps.callFree hM p X.admits X.cas X.clock (acts := []) hfr happ hPc trivial
  have hq' : vx_Q Qc XC mc ms free a (U.calling g mk a) o s₂ := hq
  rw [State.frames_setTop' g h.top] at hend
  obtain ⟨g₀, hg0⟩ := Option.isSome_iff_exists.mp h.top
  obtain ⟨r, hr⟩ := State.topJava?_eq_some.mp hg0
  have hr' : (({ U with heap := s₂.heap, slotsUsed := s₂.slotsUsed } : State).setVm s₂.vm).frames = .java g₀ :: r := hr
  rcases hq' with ⟨hqc, L, hfe, hL⟩ | ⟨q, rfl, E, ce, L, hx, hce, hcv, hcl, hW₂, hsm, hL⟩
  · obtain ⟨⟨v, rfl⟩, hW₂, e2, q2, q3, q4, q5, q6⟩ := id hfe
    have e3 : s₂ = ({ (U.calling g mk a).setFrames s₂.frames with heap := s₂.heap, slotsUsed := s₂.slotsUsed } : State).setVm s₂.vm := by
      have : s₂ = ({ s₂ with vm := (U.calling g mk a).vm } : State).setVm s₂.vm := rfl
      rw [e2] at this
      exact this
    obtain ⟨c₂, i₂, len₂, hc₂, hd₂, hf₂⟩ := hend
    have hW' : U.WarmedH s₂.vm := hW₂
    have hcc : c₂ = c := by
      have h1 : s₂.code? g.method = U.code? g.method := by
        rw [State.code?_eq, State.code?_eq, hW'.alike.method?]
      exact Option.some.inj (hc₂.symm.trans (h1.trans h.code))
    subst hcc
    have hlen : len₂ = len := by rw [hdg] at hd₂; cases hd₂; rfl
    subst hlen
    have hs₂ : s₂ = (({ U with heap := s₂.heap, slotsUsed := s₂.slotsUsed } : State).setVm s₂.vm).setTop { g with pc := g.pc + len₂, stack := v.toList ++ g.stack } := by
      refine e3.trans ?_
      rw [hf₂, State.calling_eq h.top, State.setFrames_setFrames, State.setTop_of_frames _ hr', hr]
      rfl
    have hsame : U.sameButNew ({ U with heap := s₂.heap, slotsUsed := s₂.slotsUsed } : State) L mc ms := by
      refine ⟨?_, q2, q3, q4, q5, q6⟩
      obtain ⟨t, ht, -⟩ := State.frames_cons hr
      show ({ U with heap := s₂.heap, slotsUsed := s₂.slotsUsed } : State) = { U.setFrames U.frames with heap := s₂.heap, slotsUsed := s₂.slotsUsed }
      rw [State.setFrames_self ht]
    subst hg
    refine Or.inl ⟨v, ⟨(({ U with heap := s₂.heap, slotsUsed := s₂.slotsUsed } : State).setVm s₂.vm), Ls ++ L, c0 + mc, s0 + ms⟩,
      ⟨X.admits, X.cas, X.clock, X.frames, X.room, X.hears, X.method, X.code, (X.here.setHeapUsed s₂.heap s₂.slotsUsed).setVm hW'.alike, X.tail, State.WarmedH.trans X.warmed hW', X.limits, X.bytes, X.same.trans (hsame.setVm s.vm)⟩,
      ⟨g, mk, s₂, L, rfl, rfl, hqc, rfl, hL, rfl, rfl⟩, ?_⟩
    show Steps p.tables e below _ ((({ U with heap := s₂.heap, slotsUsed := s₂.slotsUsed } : State).setVm s₂.vm).setTop { g with pc := g.pc + len₂, stack := v.toList ++ g.stack })
    rw [← hs₂]
    exact hsteps
  · obtain ⟨e2, q2, q3, q4, q5, q6⟩ := id hsm
    have e3 : s₂ = ({ (U.calling g mk a).setFrames s₂.frames with heap := s₂.heap, slotsUsed := s₂.slotsUsed } : State).setVm s₂.vm := by
      have : s₂ = ({ s₂ with vm := (U.calling g mk a).vm } : State).setVm s₂.vm := rfl
      rw [e2] at this
      exact this
    have hf₂ : s₂.frames = .throwing q :: .java g :: U.frames.tail := hend
    have hW' : U.WarmedH s₂.vm := hW₂
    have hs₂ : s₂ = ((({ U with heap := s₂.heap, slotsUsed := s₂.slotsUsed } : State).setVm s₂.vm).setTop g).pushFrame (.throwing q) := by
      refine e3.trans ?_
      rw [hf₂, State.calling_eq h.top, State.setFrames_setFrames, State.pushFrame, State.frames_setTop _ hr', State.setTop_of_frames _ hr', State.setFrames_setFrames, hr]
      rfl
    have hsame : U.sameButNew ({ U with heap := s₂.heap, slotsUsed := s₂.slotsUsed } : State) L mc ms := by
      refine ⟨?_, q2, q3, q4, q5, q6⟩
      obtain ⟨t, ht, -⟩ := State.frames_cons hr
      show ({ U with heap := s₂.heap, slotsUsed := s₂.slotsUsed } : State) = { U.setFrames U.frames with heap := s₂.heap, slotsUsed := s₂.slotsUsed }
      rw [State.setFrames_self ht]
    subst hg
    refine Or.inr ⟨q, ⟨(({ U with heap := s₂.heap, slotsUsed := s₂.slotsUsed } : State).setVm s₂.vm), Ls ++ L, c0 + mc, s0 + ms⟩,
      ⟨X.admits, X.cas, X.clock, X.frames, X.room, X.hears, X.method, X.code, (X.here.setHeapUsed s₂.heap s₂.slotsUsed).setVm hW'.alike, X.tail, State.WarmedH.trans X.warmed hW', X.limits, X.bytes, X.same.trans (hsame.setVm s.vm)⟩,
      ⟨g, mk, s₂, L, E, ce, rfl, rfl, hx, hce, hcv, hcl, rfl, hL, rfl, rfl⟩, ?_⟩
    show Steps p.tables e below _ (((({ U with heap := s₂.heap, slotsUsed := s₂.slotsUsed } : State).setVm s₂.vm).setTop g).pushFrame (.throwing q))
    rw [← hs₂]
    exact hsteps
end
variable {p : Program} {l : Launch} {e : Env} {R : Room} {s : State} {m : MethodId} {args : Array Value} {below : List Frame} {meth : Method} {c : Code} {T : State} {H : Heap} {locs : List Loc} {cells slots : Nat}
theorem vx_callVX (X : Stand p l e R s m args below meth c T locs cells slots) (hexec : p.tables.exec = Jvm.exec) {own C : String} {index : Nat} {y : MethodName} {bytes : ByteArray} {maxL : Nat} {ret : Option FieldType} {hh : List (Nat × Nat × Nat × Nat)}
    (hown : s.vm.findClass own = some m.cls) (hlink : (Cond.methodLink own index y).before args s = true) (hinst : (Cond.instanceMethod y).before args s = true) (hsel : (Cond.selects C y y).before args s = true)
    (hcode : (Cond.codeWith y bytes maxL ret hh).before args s = true) (hy : y.cls ≠ "java/lang/invoke/MethodHandle" ∧ y.cls ≠ "java/lang/invoke/VarHandle")
    {W9 : Nat} {Pre : Pt → Array Value → Prop} {Post : Pt → Array Value → Option Value → Pt → Prop} {PostX : Pt → Array Value → Addr → Pt → Prop} (hK : vx_Back l R p e below s args y 3 W9 Pre Post PostX)
    {b : Addr} {cellB : Cell} (hcell : T.heap[b]? = some cellB) (hobj : cellB.vm.isStatics = false) (hcls : s.vm.findClass C = some cellB.cls)
    {g : JFrame} (hg : g.method = m) (hsize : g.locals.size = c.maxLocals) {argsL rest : List Value} (hlen : ∀ sig, parseMethodDescriptor y.desc = some sig → argsL.length = sig.parameters.length)
    (hstack : g.stack = argsL.reverse ++ .ref b :: rest) (hW : 2 * g.monitorRoom + (rest.map fun v => v.category).sum ≤ W9) (hdg : decode c.code g.pc = .ok (.invokevirtual index, 3))
    (hpre : ∀ vm₁, s.WarmedH vm₁ → Pre ⟨T.setVm vm₁, locs, cells, slots⟩ (Value.ref b :: argsL).toArray) :
    (∃ (v : Option Value) (vm₁ : Vm) (B : Pt), s.WarmedH vm₁ ∧ Stand p l e R s m args below meth c B.U B.locs B.cells B.slots ∧ Post ⟨T.setVm vm₁, locs, cells, slots⟩ (Value.ref b :: argsL).toArray v B ∧
      ∀ target, Steps p.tables e below (B.U.setTop { g with pc := g.pc + 3, stack := v.toList ++ rest }) target → Steps p.tables e below (T.setTop g) target) ∨
    (∃ (q : Addr) (vm₁ : Vm) (B : Pt), s.WarmedH vm₁ ∧ Stand p l e R s m args below meth c B.U B.locs B.cells B.slots ∧ PostX ⟨T.setVm vm₁, locs, cells, slots⟩ (Value.ref b :: argsL).toArray q B ∧
      Steps p.tables e below (T.setTop g) ((B.U.setTop { g with stack := rest }).pushFrame (.throwing q))) := by
  obtain ⟨mk, methM, hnamed, hmethM, hstM, habM⟩ := Cond.instanceMethod_spec hinst
  obtain ⟨m8, methM', cM, hn8, hmethM', -, -, -, -, -, -, hsigM⟩ := Cond.codeWith_spec hcode
  cases Option.some.inj (hn8.symm.trans hnamed)
  cases hmethM.symm.trans hmethM'
  obtain ⟨c2, r2, m2, q1, q2, q3, q4, kP, hkP, hkPi⟩ := Cond.selects_spec hsel
  cases hcls.symm.trans q1
  cases (State.methodFound?_of_named hnamed hy).symm.trans q2
  cases hnamed.symm.trans q3
  have hselP : selectMethod e.platform s.vm cellB.cls mk = .method mk := by rw [Launch.admits_selectMethod X.admits]; exact q4
  obtain ⟨vm₁, X₁, hstep₁⟩ := X.invokevirtual hexec hown hlink hnamed hmethM hstM hkP hkPi hy (a := b) (cell := cellB) hcell
    (fun z h => by rw [h] at hobj; cases hobj) hselP hmethM habM hkP hkPi (g := g) hg (argsL := argsL) (rest := rest) (hlen _ hsigM) hstack hdg
  rcases hK m meth c ⟨T.setVm vm₁, locs, cells, slots⟩ { g with stack := rest } (.invokevirtual index) mk (Value.ref b :: argsL).toArray X₁ hg hsize hdg hW (X₁.named hnamed) (hpre vm₁ X₁.warmed) with ⟨v, B, X', hpost, hsteps⟩ | ⟨q, B, X', hpost, hsteps⟩
  · exact Or.inl ⟨v, vm₁, B, X₁.warmed, X', hpost, fun target h => hstep₁ _ fun acts => by rw [doInvoke_state]; exact hsteps.trans h⟩
  · exact Or.inr ⟨q, vm₁, B, X₁.warmed, X', hpost, hstep₁ _ fun acts => by rw [doInvoke_state]; exact hsteps⟩
theorem vx_callSX (X : Stand p l e R s m args below meth c T locs cells slots) (hexec : p.tables.exec = Jvm.exec) {own : String} {index : Nat} {y : MethodName} {bytes : ByteArray} {maxL : Nat} {ret : Option FieldType} {hh : List (Nat × Nat × Nat × Nat)}
    (hown : s.vm.findClass own = some m.cls) (hlink : (Cond.methodLink own index y).before args s = true) (hstat : (Cond.static y).before args s = true) (hinit : (Cond.initialized y.cls).before args s = true)
    (hcode : (Cond.codeWith y bytes maxL ret hh).before args s = true) (hy : y.cls ≠ "java/lang/invoke/MethodHandle" ∧ y.cls ≠ "java/lang/invoke/VarHandle")
    {W9 : Nat} {Pre : Pt → Array Value → Prop} {Post : Pt → Array Value → Option Value → Pt → Prop} {PostX : Pt → Array Value → Addr → Pt → Prop} (hK : vx_Back l R p e below s args y 3 W9 Pre Post PostX)
    {g : JFrame} (hg : g.method = m) (hsize : g.locals.size = c.maxLocals) {argsL rest : List Value} (hlen : ∀ sig, parseMethodDescriptor y.desc = some sig → argsL.length = sig.parameters.length)
    (hstack : g.stack = argsL.reverse ++ rest) (hW : 2 * g.monitorRoom + (rest.map fun v => v.category).sum ≤ W9) (hdg : decode c.code g.pc = .ok (.invokestatic index, 3))
    (hpre : ∀ vm₁, s.WarmedH vm₁ → Pre ⟨T.setVm vm₁, locs, cells, slots⟩ argsL.toArray) :
    (∃ (v : Option Value) (vm₁ : Vm) (B : Pt), s.WarmedH vm₁ ∧ Stand p l e R s m args below meth c B.U B.locs B.cells B.slots ∧ Post ⟨T.setVm vm₁, locs, cells, slots⟩ argsL.toArray v B ∧
      ∀ target, Steps p.tables e below (B.U.setTop { g with pc := g.pc + 3, stack := v.toList ++ rest }) target → Steps p.tables e below (T.setTop g) target) ∨
    (∃ (q : Addr) (vm₁ : Vm) (B : Pt), s.WarmedH vm₁ ∧ Stand p l e R s m args below meth c B.U B.locs B.cells B.slots ∧ PostX ⟨T.setVm vm₁, locs, cells, slots⟩ argsL.toArray q B ∧
      Steps p.tables e below (T.setTop g) ((B.U.setTop { g with stack := rest }).pushFrame (.throwing q))) := by
  obtain ⟨mk, methM, cM, hnamed, hmethM, -, -, -, -, -, -, hsigM⟩ := Cond.codeWith_spec hcode
  have hstatic : methM.isStatic = true := Cond.static_spec hnamed hmethM hstat
  obtain ⟨kP, hkP, -⟩ := className_of_methodNamed hnamed
  have hinitP : kP.init = .initialized := Cond.initialized_spec (findClass_of_methodNamed hnamed) hkP hinit
  obtain ⟨vm₁, X₁, hstep₁⟩ := X.invokestatic hexec hown hlink hnamed hmethM hstatic hkP hinitP hy (g := g) hg (argsL := argsL) (rest := rest) (hlen _ hsigM) hstack hdg
  rcases hK m meth c ⟨T.setVm vm₁, locs, cells, slots⟩ { g with stack := rest } (.invokestatic index) mk argsL.toArray X₁ hg hsize hdg hW (X₁.named hnamed) (hpre vm₁ X₁.warmed) with ⟨v, B, X', hpost, hsteps⟩ | ⟨q, B, X', hpost, hsteps⟩
  · exact Or.inl ⟨v, vm₁, B, X₁.warmed, X', hpost, fun target h => hstep₁ _ fun acts => by rw [doInvoke_state]; exact hsteps.trans h⟩
  · exact Or.inr ⟨q, vm₁, B, X₁.warmed, X', hpost, hstep₁ _ fun acts => by rw [doInvoke_state]; exact hsteps⟩
theorem vx_callVW (X : Stand p l e R s m args below meth c T locs cells slots) (hexec : p.tables.exec = Jvm.exec) {own C : String} {index : Nat} {y : MethodName} {bytes : ByteArray} {maxL : Nat} {ret : Option FieldType} {hh : List (Nat × Nat × Nat × Nat)}
    (hown : s.vm.findClass own = some m.cls) (hlink : (Cond.methodLink own index y).before args s = true) (hinst : (Cond.instanceMethod y).before args s = true) (hsel : (Cond.selects C y y).before args s = true)
    (hcode : (Cond.codeWith y bytes maxL ret hh).before args s = true) (hy : y.cls ≠ "java/lang/invoke/MethodHandle" ∧ y.cls ≠ "java/lang/invoke/VarHandle")
    {W9 : Nat} {Pre : Pt → Array Value → Prop} {Post : Pt → Array Value → Option Value → Pt → Prop} (hK : Back l R p e below s args y 3 W9 Pre Post)
    {b : Addr} {cellB : Cell} (hcell : T.heap[b]? = some cellB) (hobj : cellB.vm.isStatics = false) (hcls : s.vm.findClass C = some cellB.cls)
    {g : JFrame} (hg : g.method = m) (hsize : g.locals.size = c.maxLocals) {argsL rest : List Value} (hlen : ∀ sig, parseMethodDescriptor y.desc = some sig → argsL.length = sig.parameters.length)
    (hstack : g.stack = argsL.reverse ++ .ref b :: rest) (hW : 2 * g.monitorRoom + (rest.map fun v => v.category).sum ≤ W9) (hdg : decode c.code g.pc = .ok (.invokevirtual index, 3))
    (hpre : ∀ vm₁, s.WarmedH vm₁ → Pre ⟨T.setVm vm₁, locs, cells, slots⟩ (Value.ref b :: argsL).toArray) :
    ∃ (v : Option Value) (vm₁ : Vm) (B : Pt), s.WarmedH vm₁ ∧ Stand p l e R s m args below meth c B.U B.locs B.cells B.slots ∧ Post ⟨T.setVm vm₁, locs, cells, slots⟩ (Value.ref b :: argsL).toArray v B ∧
      ∀ target, Steps p.tables e below (B.U.setTop { g with pc := g.pc + 3, stack := v.toList ++ rest }) target → Steps p.tables e below (T.setTop g) target := by
  obtain ⟨mk, methM, hnamed, hmethM, hstM, habM⟩ := Cond.instanceMethod_spec hinst
  obtain ⟨m8, methM', cM, hn8, hmethM', -, -, -, -, -, -, hsigM⟩ := Cond.codeWith_spec hcode
  cases Option.some.inj (hn8.symm.trans hnamed)
  cases hmethM.symm.trans hmethM'
  obtain ⟨c2, r2, m2, q1, q2, q3, q4, kP, hkP, hkPi⟩ := Cond.selects_spec hsel
  cases hcls.symm.trans q1
  cases (State.methodFound?_of_named hnamed hy).symm.trans q2
  cases hnamed.symm.trans q3
  have hselP : selectMethod e.platform s.vm cellB.cls mk = .method mk := by rw [Launch.admits_selectMethod X.admits]; exact q4
  obtain ⟨vm₁, X₁, hstep₁⟩ := X.invokevirtual hexec hown hlink hnamed hmethM hstM hkP hkPi hy (a := b) (cell := cellB) hcell
    (fun z h => by rw [h] at hobj; cases hobj) hselP hmethM habM hkP hkPi (g := g) hg (argsL := argsL) (rest := rest) (hlen _ hsigM) hstack hdg
  obtain ⟨v, B, X', hpost, hsteps⟩ := hK m meth c ⟨T.setVm vm₁, locs, cells, slots⟩ { g with stack := rest } (.invokevirtual index) mk (Value.ref b :: argsL).toArray X₁ hg hsize hdg hW (X₁.named hnamed) (hpre vm₁ X₁.warmed)
  exact ⟨v, vm₁, B, X₁.warmed, X', hpost, fun target h => hstep₁ _ fun acts => by rw [doInvoke_state]; exact hsteps.trans h⟩
abbrev vx_CVW (R : Room) (s : State) (args : Array Value) (own C : String) (index : Nat) (y : MethodName) (bytes : ByteArray) (maxL : Nat) (ret : Option FieldType) (hh : List (Nat × Nat × Nat × Nat)) (ws : List Cond) (rm : Room) (mc ms n : Nat) : Prop :=
  (rm.cells = mc ∧ rm.slots = ms ∧ rm.frames + 1 ≤ R.frames ∧ 8 + (maxL + 11) + rm.locals ≤ R.locals ∧ (∀ w ∈ ws, ∀ (a' : Array Value) (U : State), s.WarmedH U.vm → w.before a' U = true) ∧ Cond.codeWith y bytes maxL ret hh ∈ ws) ∧
  (Cond.codeWith y bytes maxL ret hh).before args s = true ∧ (Cond.initialized y.cls).before args s = true ∧ (y.cls ≠ "java/lang/invoke/MethodHandle" ∧ y.cls ≠ "java/lang/invoke/VarHandle") ∧
  (∀ sig, parseMethodDescriptor y.desc = some sig → n = sig.parameters.length) ∧ (Cond.methodLink own index y).before args s = true ∧ (Cond.instanceMethod y).before args s = true ∧ (Cond.selects C y y).before args s = true
theorem vx_cwVW {own C : String} {index maxL mc ms : Nat} {y : MethodName} {bytes : ByteArray} {ret : Option FieldType} {hh : List (Nat × Nat × Nat × Nat)} {Ts ws ws' : List Cond} {rm : Room} (n : Nat) (ht : ∀ w ∈ Ts, w.before args s = true) (hT : GoodIn Ts (wsV own index C y ws)) (hw : ws = Cond.codeWith y bytes maxL ret hh :: ws') (hrc : rm.cells = mc) (hrs : rm.slots = ms)
    (hd : y.cls = C ∧ y.cls ≠ "java/lang/invoke/MethodHandle" ∧ y.cls ≠ "java/lang/invoke/VarHandle" ∧ (parseMethodDescriptor y.desc).map (fun d => d.parameters.length) = some n) (hR : rm.frames + 1 ≤ R.frames ∧ 8 + (maxL + 11) + rm.locals ≤ R.locals) :
    vx_CVW R s args own C index y bytes maxL ret hh ws rm mc ms n := by
  obtain ⟨hC, hd⟩ := hd
  subst hC
  have ok : ∀ w ∈ wsV own index y.cls y ws, w.before args s = true := fun w h => ht w (hT w h).1
  have hG : GoodIn Ts ws := fun w h => hT w (by unfold wsV; exact List.mem_append_right _ h)
  have hc : Cond.codeWith y bytes maxL ret hh ∈ ws := by rw [hw]; exact List.mem_cons_self
  refine ⟨⟨hrc, hrs, hR.1, hR.2, pay_in ht hG, hc⟩, ht _ (hG _ hc).1, ok _ (by simp [wsV]), ⟨hd.1, hd.2.1⟩, fun sig h => ?_, ok _ (by simp [wsV]), ok _ (by simp [wsV]), ok _ (by simp [wsV])⟩
  have h2 := hd.2.2
  rw [h] at h2
  exact (Option.some.inj h2).symm
theorem vx_runVW {y : MethodName} {bytes cc : ByteArray} {maxL nL mc ms n index : Nat} {ret : Option FieldType} {hh : List (Nat × Nat × Nat × Nat)} {ws : List Cond} {rm : Room} {Pc : Array Value → State → Prop} {Qc : Array Value → State → Outcome → State → Prop} {free : Addr → Prop} {Ts : List Cond} {own C : String} {b : Addr} {As rest : List Value} {g : JFrame}
    (S : CallFix p m c cc nL s args Ts own) (hM : Met l y ws rm Pc Qc mc ms free) (cw : vx_CVW R s args own C index y bytes maxL ret hh ws rm mc ms n) (hp : PreV s H C b Pc As)
    (hg : g.method = m) (hn : As.length = n) (hsize : g.locals.size = nL) (hstack : g.stack = As.reverse ++ .ref b :: rest) (hW : 2 * g.monitorRoom + (rest.map fun v => v.category).sum ≤ 8) (hdg : decode cc g.pc = .ok (.invokevirtual index, 3)) (hf : cells + mc ≤ R.cells ∧ slots + ms ≤ R.slots) :
    va_Run p l e R s m args below meth c H locs cells slots mc ms g rest (Qc (Value.ref b :: As).toArray) free := by
  obtain ⟨⟨hrc, hrs, hfr, hlo, hws, hcw⟩, hcode, hini, hy, hlen, hl, hin, hse⟩ := cw
  have hK : Back l R p e below s args y 3 8 (PreOf R mc ms Pc) (PostOf Qc mc ms free) := va_backW (hh := hh) (bytes := bytes) (maxL := maxL) (ret := ret) hM hp.1 hrc hrs hfr hlo hws hcw (fun a' U hW => word_at hW (Or.inl (by first | rfl | simp [Cond.onTables, Cond.keeps, Cond.steady])) hini)
  obtain ⟨hx, hb, hml, ho, -⟩ := S
  obtain ⟨-, ⟨cellB, hcB, hoB, hclB⟩, hPc⟩ := hp
  intro T hT X
  obtain ⟨v, vm₁, ⟨U', l2, c2, s2⟩, hW₁, X', ⟨g', mk, t, L, e1, e2, hq, h1, hL, h2, h3⟩, st⟩ := vx_callVW X hx (C := C) (hh := hh) (bytes := bytes) (maxL := maxL) (ret := ret) ho hl hin hse hcode hy hK (by rw [hT]; exact hcB) hoB hclB hg (hsize.trans hml.symm) (argsL := As) (rest := rest) (fun sig h => hn.trans (hlen sig h)) hstack hW (by rw [hb]; exact hdg)
    (fun vm₁ hW₁ => ⟨hf.1, hf.2, hPc (T.setVm vm₁) hT hW₁⟩)
  dsimp only [Pt.U, Pt.locs, Pt.cells, Pt.slots] at X' e1 e2 h1 h2 h3 st
  subst h1; subst h2; subst h3
  exact ⟨v, (T.setVm vm₁).calling g' mk (Value.ref b :: As).toArray, t, U', L, hT, X', hL, e1, e2, hq, st⟩
section
variable {y : MethodName} {bytes cc : ByteArray} {maxL nL mc ms n index : Nat} {ret : Option FieldType} {ws : List Cond} {rm : Room} {Pc : Array Value → State → Prop} {Qc : Array Value → State → Outcome → State → Prop} {XC : String → State → State → Prop} {free : Addr → Prop} {Ts : List Cond} {own C : String} {b : Addr} {As rest : List Value} {g : JFrame}
theorem vx_runVX {hh : List (Nat × Nat × Nat × Nat)} (S : CallFix p m c cc nL s args Ts own) (hM : vx_Met l y ws rm Pc Qc XC mc ms free) (cw : vx_CVW R s args own C index y bytes maxL ret hh ws rm mc ms n) (hp : PreV s H C b Pc As)
    (hg : g.method = m) (hn : As.length = n) (hsize : g.locals.size = nL) (hstack : g.stack = As.reverse ++ .ref b :: rest) (hW : 2 * g.monitorRoom + (rest.map fun v => v.category).sum ≤ 8) (hdg : decode cc g.pc = .ok (.invokevirtual index, 3)) (hf : cells + mc ≤ R.cells ∧ slots + ms ≤ R.slots) :
    vx_Run p l e R s m args below meth c H locs cells slots mc ms g rest (Qc (Value.ref b :: As).toArray) XC free := by
  obtain ⟨⟨hrc, hrs, hfr, hlo, hws, hcw⟩, hcode, hini, hy, hlen, hl, hin, hse⟩ := cw
  have hK : vx_Back l R p e below s args y 3 8 (PreOf R mc ms Pc) (PostOf Qc mc ms free) (vx_Post XC mc ms free) := vx_backW (hh := hh) (bytes := bytes) (maxL := maxL) (ret := ret) hM hp.1 hrc hrs hfr hlo hws hcw (fun a' U hW => word_at hW (Or.inl (by first | rfl | simp [Cond.onTables, Cond.keeps, Cond.steady])) hini)
  obtain ⟨hx, hb, hml, ho, -⟩ := S
  obtain ⟨-, ⟨cellB, hcB, hoB, hclB⟩, hPc⟩ := hp
  intro T hT X
  rcases vx_callVX X hx (C := C) (hh := hh) (bytes := bytes) (maxL := maxL) (ret := ret) ho hl hin hse hcode hy hK (by rw [hT]; exact hcB) hoB hclB hg (hsize.trans hml.symm) (argsL := As) (rest := rest) (fun sig h => hn.trans (hlen sig h)) hstack hW (by rw [hb]; exact hdg)
    (fun vm₁ hW₁ => ⟨hf.1, hf.2, hPc (T.setVm vm₁) hT hW₁⟩) with ⟨v, vm₁, ⟨U', l2, c2, s2⟩, hW₁, X', ⟨g', mk, t, L, e1, e2, hq, h1, hL, h2, h3⟩, st⟩ | ⟨q, vm₁, ⟨U', l2, c2, s2⟩, hW₁, X', ⟨g', mk, t, L, E, ce, e1, e2, hq, hce, hcv, hcl, h1, hL, h2, h3⟩, st⟩
  · dsimp only [Pt.U, Pt.locs, Pt.cells, Pt.slots] at X' e1 e2 h1 h2 h3 st
    subst h1; subst h2; subst h3
    exact Or.inl ⟨v, (T.setVm vm₁).calling g' mk (Value.ref b :: As).toArray, t, U', L, hT, X', hL, e1, e2, hq, st⟩
  · dsimp only [Pt.U, Pt.locs, Pt.cells, Pt.slots] at X' e1 e2 h1 h2 h3 st hcl
    subst h1; subst h2; subst h3
    exact Or.inr ⟨q, (T.setVm vm₁).calling g' mk (Value.ref b :: As).toArray, t, U', L, E, ce, hT, X', hL, e1, e2, hq, hce, hcv, vx_cls hW₁ hcl, st⟩
theorem vx_runSX {hh : List (Nat × Nat × Nat × Nat)} (S : CallFix p m c cc nL s args Ts own) (hM : vx_Met l y ws rm Pc Qc XC mc ms free) (cw : vx_CSW R s args own index y bytes maxL ret hh ws rm mc ms n) (hp : PreS s H Pc As)
    (hg : g.method = m) (hn : As.length = n) (hsize : g.locals.size = nL) (hstack : g.stack = As.reverse ++ rest) (hW : 2 * g.monitorRoom + (rest.map fun v => v.category).sum ≤ 8) (hdg : decode cc g.pc = .ok (.invokestatic index, 3)) (hf : cells + mc ≤ R.cells ∧ slots + ms ≤ R.slots) :
    vx_Run p l e R s m args below meth c H locs cells slots mc ms g rest (Qc As.toArray) XC free := by
  obtain ⟨⟨hrc, hrs, hfr, hlo, hws, hcw⟩, hcode, hini, hy, hlen, hl, hstt⟩ := cw
  have hK : vx_Back l R p e below s args y 3 8 (PreOf R mc ms Pc) (PostOf Qc mc ms free) (vx_Post XC mc ms free) := vx_backW (hh := hh) (bytes := bytes) (maxL := maxL) (ret := ret) hM hp.1 hrc hrs hfr hlo hws hcw (fun a' U hW => word_at hW (Or.inl (by first | rfl | simp [Cond.onTables, Cond.keeps, Cond.steady])) hini)
  obtain ⟨hx, hb, hml, ho, -⟩ := S
  intro T hT X
  rcases vx_callSX X hx (hh := hh) (bytes := bytes) (maxL := maxL) (ret := ret) ho hl hstt hini hcode hy hK hg (hsize.trans hml.symm) (argsL := As) (rest := rest) (fun sig h => hn.trans (hlen sig h)) hstack hW (by rw [hb]; exact hdg)
    (fun vm₁ hW₁ => ⟨hf.1, hf.2, hp.2 (T.setVm vm₁) hT hW₁⟩) with ⟨v, vm₁, ⟨U', l2, c2, s2⟩, hW₁, X', ⟨g', mk, t, L, e1, e2, hq, h1, hL, h2, h3⟩, st⟩ | ⟨q, vm₁, ⟨U', l2, c2, s2⟩, hW₁, X', ⟨g', mk, t, L, E, ce, e1, e2, hq, hce, hcv, hcl, h1, hL, h2, h3⟩, st⟩
  · dsimp only [Pt.U, Pt.locs, Pt.cells, Pt.slots] at X' e1 e2 h1 h2 h3 st
    subst h1; subst h2; subst h3
    exact Or.inl ⟨v, (T.setVm vm₁).calling g' mk As.toArray, t, U', L, hT, X', hL, e1, e2, hq, st⟩
  · dsimp only [Pt.U, Pt.locs, Pt.cells, Pt.slots] at X' e1 e2 h1 h2 h3 st hcl
    subst h1; subst h2; subst h3
    exact Or.inr ⟨q, (T.setVm vm₁).calling g' mk As.toArray, t, U', L, E, ce, hT, X', hL, e1, e2, hq, hce, hcv, vx_cls hW₁ hcl, st⟩
end
end VXH
theorem vx_ofWH {l : Launch} {y : MethodName} {ws ws' : List Cond} {rm : Room} {Pc : Array Value → State → Prop} {Qc : Array Value → State → Outcome → State → Prop} {XC : String → State → State → Prop} {mc ms : Nat} {free : Addr → Prop} {cc : ByteArray} {maxL : Nat} {ret : Option FieldType} {hh : List (Nat × Nat × Nat × Nat)}
    (hy : plainName y.cls = true) (hw : ws = Cond.codeWith y cc maxL ret hh :: ws')
    (body : ∀ p e s m args below meth c s₁, BodyLoose p l y (headSpec ws rm) cc maxL ret e s m args below meth c s₁ → c.maxLocals = maxL → Pc args s →
      W p l e (headSpec ws rm).room s m args below meth c s.heap [] 0 0 (vx_MQ below Qc XC args s mc ms free) (entryFrame m args maxL)) : vx_Met l y ws rm Pc Qc XC mc ms free := by
  refine MetFree.of_bodyS (code := cc) (maxLocals := maxL) (ret := ret) hy ?_ ?_
  · intro args s m h hn
    obtain ⟨m9, meth, c, hn9, h1, h2, h3, h4, -, h5, h6, -⟩ := Cond.codeWith_spec (atoms_spec (ws := ws) h _ (by rw [hw]; exact List.mem_cons_self))
    cases hn.symm.trans hn9
    exact ⟨meth, c, h1, h2, h3, h4, h5, h6⟩
  · intro p e s m args below meth c s₁ B hml hP _
    have hh0 : s₁.heap = s.heap := by rw [B.state]; rfl
    obtain ⟨t, a1, o, b1, b2, b3⟩ := body p e s m args below meth c s₁ B hml hP s₁ hh0 (Stand.of_body B)
    exact ⟨t, o, a1, b1, b2, b3⟩
/-! ===== END ===== -/
end
section
theorem t_139 : (Jvm.Cond.initialized "MakerStarts$Text") ∈ TB := inTB 139 (by decide +kernel) (by decide +kernel)
theorem t_214 : (Jvm.Cond.fieldLink "MakerStarts$Text" (31 : Nat) "MakerStarts$Text" "count" "I") ∈ TB := inTB 214 (by decide +kernel) (by decide +kernel)
theorem t_217 : (Jvm.Cond.fieldLink "MakerStarts" (79 : Nat) "MakerStarts$Text" "count" "I") ∈ TB := inTB 217 (by decide +kernel) (by decide +kernel)
theorem t_474 : (Jvm.Cond.fieldLink "MakerStarts" (82 : Nat) "MakerStarts$Machine" "markCount" "I") ∈ TB := inTB 474 (by decide +kernel) (by decide +kernel)
theorem t_476 : (Jvm.Cond.fieldLink "MakerStarts" (85 : Nat) "MakerStarts$Machine" "made" "I") ∈ TB := inTB 476 (by decide +kernel) (by decide +kernel)
theorem t_478 : (Jvm.Cond.fieldLink "MakerStarts" (88 : Nat) "MakerStarts$Machine" "steps" "I") ∈ TB := inTB 478 (by decide +kernel) (by decide +kernel)
theorem t_534 : (Jvm.Cond.fieldLink "MakerStarts" (13 : Nat) "MakerStarts" "bytes" "I") ∈ TB := inTB 534 (by decide +kernel) (by decide +kernel)
theorem t_535 : (Jvm.Cond.fieldLink "MakerStarts" (17 : Nat) "MakerStarts" "faultPlace" "I") ∈ TB := inTB 535 (by decide +kernel) (by decide +kernel)
theorem t_536 : (Jvm.Cond.fieldLink "MakerStarts" (23 : Nat) "MakerStarts" "text" "LMakerStarts$Text;") ∈ TB := inTB 536 (by decide +kernel) (by decide +kernel)
theorem t_540 : (Jvm.Cond.fieldLink "MakerStarts" (49 : Nat) "MakerStarts" "machine" "LMakerStarts$Machine;") ∈ TB := inTB 540 (by decide +kernel) (by decide +kernel)
theorem t_1263 : (Jvm.Cond.instanceMethod ({ cls := "MakerStarts$Text", name := "typeAt", desc := "(I)LMakerStarts$Type;" } : Jvm.MethodName)) ∈ TB := inTB 1263 (by decide +kernel) (by decide +kernel)
theorem t_1264 : (Jvm.Cond.selects "MakerStarts$Text" ({ cls := "MakerStarts$Text", name := "typeAt", desc := "(I)LMakerStarts$Type;" } : Jvm.MethodName) ({ cls := "MakerStarts$Text", name := "typeAt", desc := "(I)LMakerStarts$Type;" } : Jvm.MethodName)) ∈ TB := inTB 1264 (by decide +kernel) (by decide +kernel)
theorem t_1265 : (Jvm.Cond.code ({ cls := "MakerStarts$Text", name := "typeAt", desc := "(I)LMakerStarts$Type;" } : Jvm.MethodName) prog_9_method_4_code (2 : Nat) (Option.some (Jvm.ClassFile.FieldType.object "MakerStarts$Type"))) ∈ TB := inTB 1265 (by decide +kernel) (by decide +kernel)
theorem t_1537 : (Jvm.Cond.methodLink "MakerStarts" (91 : Nat) ({ cls := "MakerStarts$Text", name := "typeAt", desc := "(I)LMakerStarts$Type;" } : Jvm.MethodName)) ∈ TB := inTB 1537 (by decide +kernel) (by decide +kernel)
theorem t_1715 : (Jvm.Cond.fieldLink "MakerStartsModel" (177 : Nat) "MakerStartsModel" "code" "I") ∈ TB := inTB 1715 (by decide +kernel) (by decide +kernel)
theorem t_1717 : (Jvm.Cond.fieldLink "MakerStartsModel" (180 : Nat) "MakerStartsModel" "size" "I") ∈ TB := inTB 1717 (by decide +kernel) (by decide +kernel)
theorem t_1718 : (Jvm.Cond.fieldLink "MakerStartsModel" (13 : Nat) "MakerStartsModel" "latest" "I") ∈ TB := inTB 1718 (by decide +kernel) (by decide +kernel)
theorem t_1730 : (Jvm.Cond.fieldLink "MakerStartsModel" (414 : Nat) "MakerStartsModel" "half" "I") ∈ TB := inTB 1730 (by decide +kernel) (by decide +kernel)
theorem t_1732 : (Jvm.Cond.fieldLink "MakerStartsModel" (59 : Nat) "MakerStartsModel" "typeMany" "[I") ∈ TB := inTB 1732 (by decide +kernel) (by decide +kernel)
theorem t_1776 : (Jvm.Cond.fieldLink "MakerStartsModel" (424 : Nat) "MakerStartsModel" "marks" "I") ∈ TB := inTB 1776 (by decide +kernel) (by decide +kernel)
theorem t_1777 : (Jvm.Cond.fieldLink "MakerStartsModel" (427 : Nat) "MakerStartsModel" "things" "I") ∈ TB := inTB 1777 (by decide +kernel) (by decide +kernel)
theorem t_1778 : (Jvm.Cond.fieldLink "MakerStartsModel" (430 : Nat) "MakerStartsModel" "steps" "I") ∈ TB := inTB 1778 (by decide +kernel) (by decide +kernel)
theorem dX11_fails_0 : decode cX11_fails 0 = .ok (.aload_n 0, 1) := by decide +kernel
theorem dX11_fails_1 : decode cX11_fails 1 = .ok (.getfield 23, 3) := by decide +kernel
theorem dX11_fails_4 : decode cX11_fails 4 = .ok (.iload_n 1, 1) := by decide +kernel
theorem dX11_fails_5 : decode cX11_fails 5 = .ok (.invokevirtual 91, 3) := by decide +kernel
theorem dX11_fails_8 : decode cX11_fails 8 = .ok (.astore_n 3, 1) := by decide +kernel
theorem dX11_fails_9 : decode cX11_fails 9 = .ok (.aload_n 3, 1) := by decide +kernel
theorem dX11_fails_10 : decode cX11_fails 10 = .ok (.ifnonnull 7, 3) := by decide +kernel
theorem dX11_fails_13 : decode cX11_fails 13 = .ok (.aconst_null, 1) := by decide +kernel
theorem dX11_fails_14 : decode cX11_fails 14 = .ok (.goto 8, 3) := by decide +kernel
theorem dX11_fails_22 : decode cX11_fails 22 = .ok (.astore 4, 2) := by decide +kernel
theorem dX11_fails_24 : decode cX11_fails 24 = .ok (.aload 4, 2) := by decide +kernel
theorem dX11_fails_26 : decode cX11_fails 26 = .ok (.ifnonnull 7, 3) := by decide +kernel
theorem dX11_fails_29 : decode cX11_fails 29 = .ok (.iconst (-1), 1) := by decide +kernel
theorem dX11_fails_30 : decode cX11_fails 30 = .ok (.goto 11, 3) := by decide +kernel
theorem dX11_fails_41 : decode cX11_fails 41 = .ok (.ireturn, 1) := by decide +kernel
theorem dX11_make_0 : decode cX11_make 0 = .ok (.aload_n 0, 1) := by decide +kernel
theorem dX11_make_1 : decode cX11_make 1 = .ok (.getfield 23, 3) := by decide +kernel
theorem dX11_make_4 : decode cX11_make 4 = .ok (.iload_n 1, 1) := by decide +kernel
theorem dX11_make_5 : decode cX11_make 5 = .ok (.invokevirtual 91, 3) := by decide +kernel
theorem dX11_make_8 : decode cX11_make 8 = .ok (.astore 6, 2) := by decide +kernel
theorem dX11_make_10 : decode cX11_make 10 = .ok (.aload 6, 2) := by decide +kernel
theorem dX11_make_12 : decode cX11_make 12 = .ok (.ifnonnull 5, 3) := by decide +kernel
theorem dX11_make_15 : decode cX11_make 15 = .ok (.iconst (-1), 1) := by decide +kernel
theorem dX11_make_16 : decode cX11_make 16 = .ok (.ireturn, 1) := by decide +kernel
theorem dX11_place_0 : decode cX11_place 0 = .ok (.aload_n 0, 1) := by decide +kernel
theorem dX11_place_1 : decode cX11_place 1 = .ok (.getfield 17, 3) := by decide +kernel
theorem dX11_place_4 : decode cX11_place 4 = .ok (.ireturn, 1) := by decide +kernel
theorem dX11_start_0 : decode cX11_start 0 = .ok (.aload_n 0, 1) := by decide +kernel
theorem dX11_start_1 : decode cX11_start 1 = .ok (.getfield 23, 3) := by decide +kernel
theorem dX11_start_4 : decode cX11_start 4 = .ok (.iload_n 1, 1) := by decide +kernel
theorem dX11_start_5 : decode cX11_start 5 = .ok (.invokevirtual 91, 3) := by decide +kernel
theorem dX11_start_8 : decode cX11_start 8 = .ok (.astore_n 2, 1) := by decide +kernel
theorem dX11_start_9 : decode cX11_start 9 = .ok (.aload_n 2, 1) := by decide +kernel
theorem dX11_start_10 : decode cX11_start 10 = .ok (.ifnonnull 7, 3) := by decide +kernel
theorem dX11_start_13 : decode cX11_start 13 = .ok (.iconst (-1), 1) := by decide +kernel
theorem dX11_start_14 : decode cX11_start 14 = .ok (.goto 11, 3) := by decide +kernel
theorem dX11_start_25 : decode cX11_start 25 = .ok (.ireturn, 1) := by decide +kernel
theorem dX11_told_0 : decode cX11_told 0 = .ok (.iload_n 1, 1) := by decide +kernel
theorem dX11_told_1 : decode cX11_told 1 = .ok (.tableswitch 72 0 4 #[35, 43, 51, 56, 64], 35) := by decide +kernel
theorem dX11_told_36 : decode cX11_told 36 = .ok (.aload_n 0, 1) := by decide +kernel
theorem dX11_told_37 : decode cX11_told 37 = .ok (.getfield 23, 3) := by decide +kernel
theorem dX11_told_40 : decode cX11_told 40 = .ok (.getfield 79, 3) := by decide +kernel
theorem dX11_told_43 : decode cX11_told 43 = .ok (.ireturn, 1) := by decide +kernel
theorem dX11_told_44 : decode cX11_told 44 = .ok (.aload_n 0, 1) := by decide +kernel
theorem dX11_told_45 : decode cX11_told 45 = .ok (.getfield 49, 3) := by decide +kernel
theorem dX11_told_48 : decode cX11_told 48 = .ok (.getfield 82, 3) := by decide +kernel
theorem dX11_told_51 : decode cX11_told 51 = .ok (.ireturn, 1) := by decide +kernel
theorem dX11_told_52 : decode cX11_told 52 = .ok (.aload_n 0, 1) := by decide +kernel
theorem dX11_told_53 : decode cX11_told 53 = .ok (.getfield 13, 3) := by decide +kernel
theorem dX11_told_56 : decode cX11_told 56 = .ok (.ireturn, 1) := by decide +kernel
theorem dX11_told_57 : decode cX11_told 57 = .ok (.aload_n 0, 1) := by decide +kernel
theorem dX11_told_58 : decode cX11_told 58 = .ok (.getfield 49, 3) := by decide +kernel
theorem dX11_told_61 : decode cX11_told 61 = .ok (.getfield 85, 3) := by decide +kernel
theorem dX11_told_64 : decode cX11_told 64 = .ok (.ireturn, 1) := by decide +kernel
theorem dX11_told_65 : decode cX11_told 65 = .ok (.aload_n 0, 1) := by decide +kernel
theorem dX11_told_66 : decode cX11_told 66 = .ok (.getfield 49, 3) := by decide +kernel
theorem dX11_told_69 : decode cX11_told 69 = .ok (.getfield 88, 3) := by decide +kernel
theorem dX11_told_72 : decode cX11_told 72 = .ok (.ireturn, 1) := by decide +kernel
theorem dX11_told_73 : decode cX11_told 73 = .ok (.bipush (-2), 2) := by decide +kernel
theorem dX11_told_75 : decode cX11_told 75 = .ok (.ireturn, 1) := by decide +kernel
theorem dX11_type_0 : decode cX11_type 0 = .ok (.aload_n 0, 1) := by decide +kernel
theorem dX11_type_1 : decode cX11_type 1 = .ok (.getfield 23, 3) := by decide +kernel
theorem dX11_type_4 : decode cX11_type 4 = .ok (.iload_n 1, 1) := by decide +kernel
theorem dX11_type_5 : decode cX11_type 5 = .ok (.invokevirtual 91, 3) := by decide +kernel
theorem dX11_type_8 : decode cX11_type 8 = .ok (.astore_n 3, 1) := by decide +kernel
theorem dX11_type_9 : decode cX11_type 9 = .ok (.aload_n 3, 1) := by decide +kernel
theorem dX11_type_10 : decode cX11_type 10 = .ok (.ifnonnull 5, 3) := by decide +kernel
theorem dX11_type_13 : decode cX11_type 13 = .ok (.iconst (-1), 1) := by decide +kernel
theorem dX11_type_14 : decode cX11_type 14 = .ok (.ireturn, 1) := by decide +kernel
theorem dX12_fails_0 : decode cX12_fails 0 = .ok (.aload_n 0, 1) := by decide +kernel
theorem dX12_fails_1 : decode cX12_fails 1 = .ok (.iconst 0, 1) := by decide +kernel
theorem dX12_fails_2 : decode cX12_fails 2 = .ok (.putfield 177, 3) := by decide +kernel
theorem dX12_fails_5 : decode cX12_fails 5 = .ok (.iload_n 1, 1) := by decide +kernel
theorem dX12_fails_6 : decode cX12_fails 6 = .ok (.ifCond .lt 25, 3) := by decide +kernel
theorem dX12_fails_9 : decode cX12_fails 9 = .ok (.iload_n 1, 1) := by decide +kernel
theorem dX12_fails_10 : decode cX12_fails 10 = .ok (.aload_n 0, 1) := by decide +kernel
theorem dX12_fails_11 : decode cX12_fails 11 = .ok (.getfield 59, 3) := by decide +kernel
theorem dX12_fails_14 : decode cX12_fails 14 = .ok (.aload_n 0, 1) := by decide +kernel
theorem dX12_fails_15 : decode cX12_fails 15 = .ok (.getfield 414, 3) := by decide +kernel
theorem dX12_fails_18 : decode cX12_fails 18 = .ok (.iaload, 1) := by decide +kernel
theorem dX12_fails_19 : decode cX12_fails 19 = .ok (.if_icmp .ge 12, 3) := by decide +kernel
theorem dX12_fails_31 : decode cX12_fails 31 = .ok (.iconst (-1), 1) := by decide +kernel
theorem dX12_fails_32 : decode cX12_fails 32 = .ok (.ireturn, 1) := by decide +kernel
theorem dX12_make_0 : decode cX12_make 0 = .ok (.aload_n 0, 1) := by decide +kernel
theorem dX12_make_1 : decode cX12_make 1 = .ok (.iconst 0, 1) := by decide +kernel
theorem dX12_make_2 : decode cX12_make 2 = .ok (.putfield 177, 3) := by decide +kernel
theorem dX12_make_5 : decode cX12_make 5 = .ok (.iload_n 1, 1) := by decide +kernel
theorem dX12_make_6 : decode cX12_make 6 = .ok (.ifCond .lt 16, 3) := by decide +kernel
theorem dX12_make_9 : decode cX12_make 9 = .ok (.iload_n 1, 1) := by decide +kernel
theorem dX12_make_10 : decode cX12_make 10 = .ok (.aload_n 0, 1) := by decide +kernel
theorem dX12_make_11 : decode cX12_make 11 = .ok (.getfield 59, 3) := by decide +kernel
theorem dX12_make_14 : decode cX12_make 14 = .ok (.aload_n 0, 1) := by decide +kernel
theorem dX12_make_15 : decode cX12_make 15 = .ok (.getfield 414, 3) := by decide +kernel
theorem dX12_make_18 : decode cX12_make 18 = .ok (.iaload, 1) := by decide +kernel
theorem dX12_make_19 : decode cX12_make 19 = .ok (.if_icmp .lt 5, 3) := by decide +kernel
theorem dX12_make_22 : decode cX12_make 22 = .ok (.iconst (-1), 1) := by decide +kernel
theorem dX12_make_23 : decode cX12_make 23 = .ok (.ireturn, 1) := by decide +kernel
theorem dX12_place_0 : decode cX12_place 0 = .ok (.aload_n 0, 1) := by decide +kernel
theorem dX12_place_1 : decode cX12_place 1 = .ok (.iconst 0, 1) := by decide +kernel
theorem dX12_place_2 : decode cX12_place 2 = .ok (.putfield 177, 3) := by decide +kernel
theorem dX12_place_5 : decode cX12_place 5 = .ok (.aload_n 0, 1) := by decide +kernel
theorem dX12_place_6 : decode cX12_place 6 = .ok (.getfield 13, 3) := by decide +kernel
theorem dX12_place_9 : decode cX12_place 9 = .ok (.ireturn, 1) := by decide +kernel
theorem dX12_start_0 : decode cX12_start 0 = .ok (.aload_n 0, 1) := by decide +kernel
theorem dX12_start_1 : decode cX12_start 1 = .ok (.iconst 0, 1) := by decide +kernel
theorem dX12_start_2 : decode cX12_start 2 = .ok (.putfield 177, 3) := by decide +kernel
theorem dX12_start_5 : decode cX12_start 5 = .ok (.iload_n 1, 1) := by decide +kernel
theorem dX12_start_6 : decode cX12_start 6 = .ok (.ifCond .lt 16, 3) := by decide +kernel
theorem dX12_start_9 : decode cX12_start 9 = .ok (.iload_n 1, 1) := by decide +kernel
theorem dX12_start_10 : decode cX12_start 10 = .ok (.aload_n 0, 1) := by decide +kernel
theorem dX12_start_11 : decode cX12_start 11 = .ok (.getfield 59, 3) := by decide +kernel
theorem dX12_start_14 : decode cX12_start 14 = .ok (.aload_n 0, 1) := by decide +kernel
theorem dX12_start_15 : decode cX12_start 15 = .ok (.getfield 414, 3) := by decide +kernel
theorem dX12_start_18 : decode cX12_start 18 = .ok (.iaload, 1) := by decide +kernel
theorem dX12_start_19 : decode cX12_start 19 = .ok (.if_icmp .lt 5, 3) := by decide +kernel
theorem dX12_start_22 : decode cX12_start 22 = .ok (.iconst (-1), 1) := by decide +kernel
theorem dX12_start_23 : decode cX12_start 23 = .ok (.ireturn, 1) := by decide +kernel
theorem dX12_told_0 : decode cX12_told 0 = .ok (.aload_n 0, 1) := by decide +kernel
theorem dX12_told_1 : decode cX12_told 1 = .ok (.iconst 0, 1) := by decide +kernel
theorem dX12_told_2 : decode cX12_told 2 = .ok (.putfield 177, 3) := by decide +kernel
theorem dX12_told_5 : decode cX12_told 5 = .ok (.iload_n 1, 1) := by decide +kernel
theorem dX12_told_6 : decode cX12_told 6 = .ok (.ifCond .ne 15, 3) := by decide +kernel
theorem dX12_told_9 : decode cX12_told 9 = .ok (.aload_n 0, 1) := by decide +kernel
theorem dX12_told_10 : decode cX12_told 10 = .ok (.getfield 59, 3) := by decide +kernel
theorem dX12_told_13 : decode cX12_told 13 = .ok (.aload_n 0, 1) := by decide +kernel
theorem dX12_told_14 : decode cX12_told 14 = .ok (.getfield 414, 3) := by decide +kernel
theorem dX12_told_17 : decode cX12_told 17 = .ok (.iaload, 1) := by decide +kernel
theorem dX12_told_18 : decode cX12_told 18 = .ok (.goto 53, 3) := by decide +kernel
theorem dX12_told_21 : decode cX12_told 21 = .ok (.iload_n 1, 1) := by decide +kernel
theorem dX12_told_22 : decode cX12_told 22 = .ok (.iconst 1, 1) := by decide +kernel
theorem dX12_told_23 : decode cX12_told 23 = .ok (.if_icmp .ne 10, 3) := by decide +kernel
theorem dX12_told_26 : decode cX12_told 26 = .ok (.aload_n 0, 1) := by decide +kernel
theorem dX12_told_27 : decode cX12_told 27 = .ok (.getfield 424, 3) := by decide +kernel
theorem dX12_told_30 : decode cX12_told 30 = .ok (.goto 41, 3) := by decide +kernel
theorem dX12_told_33 : decode cX12_told 33 = .ok (.iload_n 1, 1) := by decide +kernel
theorem dX12_told_34 : decode cX12_told 34 = .ok (.iconst 2, 1) := by decide +kernel
theorem dX12_told_35 : decode cX12_told 35 = .ok (.if_icmp .ne 10, 3) := by decide +kernel
theorem dX12_told_38 : decode cX12_told 38 = .ok (.aload_n 0, 1) := by decide +kernel
theorem dX12_told_39 : decode cX12_told 39 = .ok (.getfield 180, 3) := by decide +kernel
theorem dX12_told_42 : decode cX12_told 42 = .ok (.goto 29, 3) := by decide +kernel
theorem dX12_told_45 : decode cX12_told 45 = .ok (.iload_n 1, 1) := by decide +kernel
theorem dX12_told_46 : decode cX12_told 46 = .ok (.iconst 3, 1) := by decide +kernel
theorem dX12_told_47 : decode cX12_told 47 = .ok (.if_icmp .ne 10, 3) := by decide +kernel
theorem dX12_told_50 : decode cX12_told 50 = .ok (.aload_n 0, 1) := by decide +kernel
theorem dX12_told_51 : decode cX12_told 51 = .ok (.getfield 427, 3) := by decide +kernel
theorem dX12_told_54 : decode cX12_told 54 = .ok (.goto 17, 3) := by decide +kernel
theorem dX12_told_57 : decode cX12_told 57 = .ok (.iload_n 1, 1) := by decide +kernel
theorem dX12_told_58 : decode cX12_told 58 = .ok (.iconst 4, 1) := by decide +kernel
theorem dX12_told_59 : decode cX12_told 59 = .ok (.if_icmp .ne 10, 3) := by decide +kernel
theorem dX12_told_62 : decode cX12_told 62 = .ok (.aload_n 0, 1) := by decide +kernel
theorem dX12_told_63 : decode cX12_told 63 = .ok (.getfield 430, 3) := by decide +kernel
theorem dX12_told_66 : decode cX12_told 66 = .ok (.goto 5, 3) := by decide +kernel
theorem dX12_told_69 : decode cX12_told 69 = .ok (.bipush (-2), 2) := by decide +kernel
theorem dX12_told_71 : decode cX12_told 71 = .ok (.ireturn, 1) := by decide +kernel
theorem dX12_type_0 : decode cX12_type 0 = .ok (.aload_n 0, 1) := by decide +kernel
theorem dX12_type_1 : decode cX12_type 1 = .ok (.iconst 0, 1) := by decide +kernel
theorem dX12_type_2 : decode cX12_type 2 = .ok (.putfield 177, 3) := by decide +kernel
theorem dX12_type_5 : decode cX12_type 5 = .ok (.iload_n 1, 1) := by decide +kernel
theorem dX12_type_6 : decode cX12_type 6 = .ok (.ifCond .lt 16, 3) := by decide +kernel
theorem dX12_type_9 : decode cX12_type 9 = .ok (.iload_n 1, 1) := by decide +kernel
theorem dX12_type_10 : decode cX12_type 10 = .ok (.aload_n 0, 1) := by decide +kernel
theorem dX12_type_11 : decode cX12_type 11 = .ok (.getfield 59, 3) := by decide +kernel
theorem dX12_type_14 : decode cX12_type 14 = .ok (.aload_n 0, 1) := by decide +kernel
theorem dX12_type_15 : decode cX12_type 15 = .ok (.getfield 414, 3) := by decide +kernel
theorem dX12_type_18 : decode cX12_type 18 = .ok (.iaload, 1) := by decide +kernel
theorem dX12_type_19 : decode cX12_type 19 = .ok (.if_icmp .lt 5, 3) := by decide +kernel
theorem dX12_type_22 : decode cX12_type 22 = .ok (.iconst (-1), 1) := by decide +kernel
theorem dX12_type_23 : decode cX12_type 23 = .ok (.ireturn, 1) := by decide +kernel
theorem dX7_typeAt_0 : decode cX7_typeAt 0 = .ok (.iload_n 1, 1) := by decide +kernel
theorem dX7_typeAt_1 : decode cX7_typeAt 1 = .ok (.ifCond .lt 26, 3) := by decide +kernel
theorem dX7_typeAt_4 : decode cX7_typeAt 4 = .ok (.iload_n 1, 1) := by decide +kernel
theorem dX7_typeAt_5 : decode cX7_typeAt 5 = .ok (.aload_n 0, 1) := by decide +kernel
theorem dX7_typeAt_6 : decode cX7_typeAt 6 = .ok (.getfield 31, 3) := by decide +kernel
theorem dX7_typeAt_9 : decode cX7_typeAt 9 = .ok (.if_icmp .ge 18, 3) := by decide +kernel
theorem dX7_typeAt_27 : decode cX7_typeAt 27 = .ok (.aconst_null, 1) := by decide +kernel
theorem dX7_typeAt_28 : decode cX7_typeAt 28 = .ok (.areturn, 1) := by decide +kernel
set_option maxHeartbeats 4000000 in
set_option maxRecDepth 100000 in
theorem c_place (l : Launch) (D : va_G) (cy : Nat → ClassId) (sz : Nat) (hx0 : Nat) (xa : Nat → Nat) : Met l yX11_place (.code yX11_place cX11_place 1 (some .int) :: TB) ({ frames := 0, cells := 0, slots := 0, locals := 0 }) (va_Pc [.ref hx0] (fun U => U.heap.size = sz ∧ va_P D vwCl [(hx0, .inr (11, [.ref (xa 0), .int 0, .int (-1), .ref (xa 1), .ref (xa 2), .ref (xa 3), .ref (xa 4), .ref (xa 5)]))] U.heap ∧ va_K D vwCl (TY cy) U ∧ va_D (fun _ => True) [(hx0, .inr (11, [.ref (xa 0), .int 0, .int (-1), .ref (xa 1), .ref (xa 2), .ref (xa 3), .ref (xa 4), .ref (xa 5)]))])) (va_Qi (fun (r : Int32) (u : Unit) => r = -1) (fun (u : Unit) t => va_P D vwCl [] t.heap ∧ va_D (va_A [(hx0, .inr (11, [.ref (xa 0), .int 0, .int (-1), .ref (xa 1), .ref (xa 2), .ref (xa 3), .ref (xa 4), .ref (xa 5)]))] sz) []) (va_A [(hx0, .inr (11, [.ref (xa 0), .int 0, .int (-1), .ref (xa 1), .ref (xa 2), .ref (xa 3), .ref (xa 4), .ref (xa 5)]))] sz)) 0 0 (va_A [(hx0, .inr (11, [.ref (xa 0), .int 0, .int (-1), .ref (xa 1), .ref (xa 2), .ref (xa 3), .ref (xa 4), .ref (xa 5)]))] sz) := by
  refine Met.ofW (cc := cX11_place) (maxL := 1) (ret := (some .int)) (by decide) rfl ?_
  intro p e s m args below meth c s₁ B hml hv
  obtain ⟨rfl, hsz, hP, hK, hD0⟩ := hv
  have hx := B.exec
  have hb := B.bytes
  have hr := B.returns
  have hts := atoms_spec (ws := .code yX11_place cX11_place 1 (some .int) :: TB) B.pre
  have hT : ∀ w ∈ TB, w.before _ s = true := fun w h => hts w (List.mem_cons_of_mem _ h)
  have hown : s.vm.findClass "MakerStarts" = some m.cls := findClass_of_methodNamed B.named
  have hlocks := B.notSynchronized
  subst hsz
  have hD := hD0.self (sz := s.heap.size)
  generalize hAe : va_A [(hx0, .inr (11, [.ref (xa 0), .int 0, .int (-1), .ref (xa 1), .ref (xa 2), .ref (xa 3), .ref (xa 4), .ref (xa 5)]))] s.heap.size = A at hD  ⊢
  have hA : ∀ q : Nat, s.heap.size ≤ q → A q := fun q h => by rw [← hAe]; exact Or.inr h
  have hS : va_S A s.heap s.heap [] := va_S.rf
  have hP : va_P D vwCl [(hx0, .inr (11, [.ref (xa 0), .int 0, .int (-1), .ref (xa 1), .ref (xa 2), .ref (xa 3), .ref (xa 4), .ref (xa 5)]))] s.heap := hP
  have hl := lv_entry ([.ref hx0]) (n := 1) (Nat.le_of_ble_eq_true rfl)
  rw [lg_entry_eq]
  generalize (lg_sl ([.ref hx0]) ++ List.replicate (1 - (lg_sl ([.ref hx0])).length) Slot.unset).toArray = ls at hl ⊢
  have hl : lv_has ls 1 [(0, .ref hx0)] := hl
  refine lv_aload_n hx hb dX11_place_0 rfl (lv_at hl 0 rfl) ?_
  refine va_get (D := D) (ci := 11) (v := .int (-1)) (C := RX11) (T := TX11) (N := 8) hx hb hT i_TX11 hown hK hP 0 rfl rfl 2 (by decide) (hT _ t_535) (fun _ h9 => h9) rfl dX11_place_1 ?_
  have hP9 := hP.sub (ws' := []) [] rfl
  have hD9 := hD.sub (ws' := []) [] (by decide) rfl
  refine W.widen (k := 0) (n := 0) (Nat.le_of_ble_eq_true rfl) (Nat.le_of_ble_eq_true rfl) ?_
  exact W.iret (v := (-1)) hx hb hr (fun t ht hW => ⟨⟨(-1), (), rfl, rfl, by rw [ht]; exact hP9, hD9⟩, hS.F ht⟩) hS.2.2 dX11_place_4

set_option maxHeartbeats 4000000 in
set_option maxRecDepth 100000 in
theorem m_place (l : Launch) (D : va_G) (cy : Nat → ClassId) (sz : Nat) (hm : Nat) (ma : Nat → Nat) : Met l yX12_place (.code yX12_place cX12_place 1 (some .int) :: TB) ({ frames := 0, cells := 0, slots := 0, locals := 0 }) (va_Pc [.ref hm] (fun U => U.heap.size = sz ∧ va_P D vwCl [(hm, .inr (12, [.int 0, .ref (ma 1), .int 0, .int (-1), .ref (ma 4), .int 0, .int 0, .int 0, .long 0, .int 0, .int 0, .int 0, .int 0, .long 0, .int 0, .int 0, .int 0, .ref (ma 17), .ref (ma 18), .ref (ma 19), .ref (ma 20), .ref (ma 21), .ref (ma 22), .ref (ma 23), .ref (ma 24), .ref (ma 25), .ref (ma 26), .ref (ma 27), .ref (ma 28), .ref (ma 29), .ref (ma 30), .ref (ma 31), .ref (ma 32), .ref (ma 33), .ref (ma 34), .ref (ma 35), .ref (ma 36), .ref (ma 37), .ref (ma 38), .ref (ma 39), .ref (ma 40), .ref (ma 41), .ref (ma 42), .ref (ma 43), .ref (ma 44), .ref (ma 45), .ref (ma 46), .ref (ma 47), .ref (ma 48), .int 0, .int 0, .int 0, .int 0, .int 0, .int 0, .int 0, .int 0, .int 0, .int 0, .ref (ma 59), .ref (ma 60), .int 0, .int 0, .int 0, .int 0, .int 0, .int 0, .ref (ma 67), .ref (ma 68), .ref (ma 69), .int 0, .int (-1), .int 0, .ref (ma 73)]))] U.heap ∧ va_K D vwCl (TY cy) U ∧ va_D (fun _ => True) [(hm, .inr (12, [.int 0, .ref (ma 1), .int 0, .int (-1), .ref (ma 4), .int 0, .int 0, .int 0, .long 0, .int 0, .int 0, .int 0, .int 0, .long 0, .int 0, .int 0, .int 0, .ref (ma 17), .ref (ma 18), .ref (ma 19), .ref (ma 20), .ref (ma 21), .ref (ma 22), .ref (ma 23), .ref (ma 24), .ref (ma 25), .ref (ma 26), .ref (ma 27), .ref (ma 28), .ref (ma 29), .ref (ma 30), .ref (ma 31), .ref (ma 32), .ref (ma 33), .ref (ma 34), .ref (ma 35), .ref (ma 36), .ref (ma 37), .ref (ma 38), .ref (ma 39), .ref (ma 40), .ref (ma 41), .ref (ma 42), .ref (ma 43), .ref (ma 44), .ref (ma 45), .ref (ma 46), .ref (ma 47), .ref (ma 48), .int 0, .int 0, .int 0, .int 0, .int 0, .int 0, .int 0, .int 0, .int 0, .int 0, .ref (ma 59), .ref (ma 60), .int 0, .int 0, .int 0, .int 0, .int 0, .int 0, .ref (ma 67), .ref (ma 68), .ref (ma 69), .int 0, .int (-1), .int 0, .ref (ma 73)]))])) (va_Qi (fun (r : Int32) (u : Unit) => r = -1) (fun (u : Unit) t => va_P D vwCl [] t.heap ∧ va_D (va_A [(hm, .inr (12, [.int 0, .ref (ma 1), .int 0, .int (-1), .ref (ma 4), .int 0, .int 0, .int 0, .long 0, .int 0, .int 0, .int 0, .int 0, .long 0, .int 0, .int 0, .int 0, .ref (ma 17), .ref (ma 18), .ref (ma 19), .ref (ma 20), .ref (ma 21), .ref (ma 22), .ref (ma 23), .ref (ma 24), .ref (ma 25), .ref (ma 26), .ref (ma 27), .ref (ma 28), .ref (ma 29), .ref (ma 30), .ref (ma 31), .ref (ma 32), .ref (ma 33), .ref (ma 34), .ref (ma 35), .ref (ma 36), .ref (ma 37), .ref (ma 38), .ref (ma 39), .ref (ma 40), .ref (ma 41), .ref (ma 42), .ref (ma 43), .ref (ma 44), .ref (ma 45), .ref (ma 46), .ref (ma 47), .ref (ma 48), .int 0, .int 0, .int 0, .int 0, .int 0, .int 0, .int 0, .int 0, .int 0, .int 0, .ref (ma 59), .ref (ma 60), .int 0, .int 0, .int 0, .int 0, .int 0, .int 0, .ref (ma 67), .ref (ma 68), .ref (ma 69), .int 0, .int (-1), .int 0, .ref (ma 73)]))] sz) []) (va_A [(hm, .inr (12, [.int 0, .ref (ma 1), .int 0, .int (-1), .ref (ma 4), .int 0, .int 0, .int 0, .long 0, .int 0, .int 0, .int 0, .int 0, .long 0, .int 0, .int 0, .int 0, .ref (ma 17), .ref (ma 18), .ref (ma 19), .ref (ma 20), .ref (ma 21), .ref (ma 22), .ref (ma 23), .ref (ma 24), .ref (ma 25), .ref (ma 26), .ref (ma 27), .ref (ma 28), .ref (ma 29), .ref (ma 30), .ref (ma 31), .ref (ma 32), .ref (ma 33), .ref (ma 34), .ref (ma 35), .ref (ma 36), .ref (ma 37), .ref (ma 38), .ref (ma 39), .ref (ma 40), .ref (ma 41), .ref (ma 42), .ref (ma 43), .ref (ma 44), .ref (ma 45), .ref (ma 46), .ref (ma 47), .ref (ma 48), .int 0, .int 0, .int 0, .int 0, .int 0, .int 0, .int 0, .int 0, .int 0, .int 0, .ref (ma 59), .ref (ma 60), .int 0, .int 0, .int 0, .int 0, .int 0, .int 0, .ref (ma 67), .ref (ma 68), .ref (ma 69), .int 0, .int (-1), .int 0, .ref (ma 73)]))] sz)) 0 0 (va_A [(hm, .inr (12, [.int 0, .ref (ma 1), .int 0, .int (-1), .ref (ma 4), .int 0, .int 0, .int 0, .long 0, .int 0, .int 0, .int 0, .int 0, .long 0, .int 0, .int 0, .int 0, .ref (ma 17), .ref (ma 18), .ref (ma 19), .ref (ma 20), .ref (ma 21), .ref (ma 22), .ref (ma 23), .ref (ma 24), .ref (ma 25), .ref (ma 26), .ref (ma 27), .ref (ma 28), .ref (ma 29), .ref (ma 30), .ref (ma 31), .ref (ma 32), .ref (ma 33), .ref (ma 34), .ref (ma 35), .ref (ma 36), .ref (ma 37), .ref (ma 38), .ref (ma 39), .ref (ma 40), .ref (ma 41), .ref (ma 42), .ref (ma 43), .ref (ma 44), .ref (ma 45), .ref (ma 46), .ref (ma 47), .ref (ma 48), .int 0, .int 0, .int 0, .int 0, .int 0, .int 0, .int 0, .int 0, .int 0, .int 0, .ref (ma 59), .ref (ma 60), .int 0, .int 0, .int 0, .int 0, .int 0, .int 0, .ref (ma 67), .ref (ma 68), .ref (ma 69), .int 0, .int (-1), .int 0, .ref (ma 73)]))] sz) := by
  refine Met.ofW (cc := cX12_place) (maxL := 1) (ret := (some .int)) (by decide) rfl ?_
  intro p e s m args below meth c s₁ B hml hv
  obtain ⟨rfl, hsz, hP, hK, hD0⟩ := hv
  have hx := B.exec
  have hb := B.bytes
  have hr := B.returns
  have hts := atoms_spec (ws := .code yX12_place cX12_place 1 (some .int) :: TB) B.pre
  have hT : ∀ w ∈ TB, w.before _ s = true := fun w h => hts w (List.mem_cons_of_mem _ h)
  have hown : s.vm.findClass "MakerStartsModel" = some m.cls := findClass_of_methodNamed B.named
  have hlocks := B.notSynchronized
  subst hsz
  have hD := hD0.self (sz := s.heap.size)
  generalize hAe : va_A [(hm, .inr (12, [.int 0, .ref (ma 1), .int 0, .int (-1), .ref (ma 4), .int 0, .int 0, .int 0, .long 0, .int 0, .int 0, .int 0, .int 0, .long 0, .int 0, .int 0, .int 0, .ref (ma 17), .ref (ma 18), .ref (ma 19), .ref (ma 20), .ref (ma 21), .ref (ma 22), .ref (ma 23), .ref (ma 24), .ref (ma 25), .ref (ma 26), .ref (ma 27), .ref (ma 28), .ref (ma 29), .ref (ma 30), .ref (ma 31), .ref (ma 32), .ref (ma 33), .ref (ma 34), .ref (ma 35), .ref (ma 36), .ref (ma 37), .ref (ma 38), .ref (ma 39), .ref (ma 40), .ref (ma 41), .ref (ma 42), .ref (ma 43), .ref (ma 44), .ref (ma 45), .ref (ma 46), .ref (ma 47), .ref (ma 48), .int 0, .int 0, .int 0, .int 0, .int 0, .int 0, .int 0, .int 0, .int 0, .int 0, .ref (ma 59), .ref (ma 60), .int 0, .int 0, .int 0, .int 0, .int 0, .int 0, .ref (ma 67), .ref (ma 68), .ref (ma 69), .int 0, .int (-1), .int 0, .ref (ma 73)]))] s.heap.size = A at hD  ⊢
  have hA : ∀ q : Nat, s.heap.size ≤ q → A q := fun q h => by rw [← hAe]; exact Or.inr h
  have hS : va_S A s.heap s.heap [] := va_S.rf
  have hP : va_P D vwCl [(hm, .inr (12, [.int 0, .ref (ma 1), .int 0, .int (-1), .ref (ma 4), .int 0, .int 0, .int 0, .long 0, .int 0, .int 0, .int 0, .int 0, .long 0, .int 0, .int 0, .int 0, .ref (ma 17), .ref (ma 18), .ref (ma 19), .ref (ma 20), .ref (ma 21), .ref (ma 22), .ref (ma 23), .ref (ma 24), .ref (ma 25), .ref (ma 26), .ref (ma 27), .ref (ma 28), .ref (ma 29), .ref (ma 30), .ref (ma 31), .ref (ma 32), .ref (ma 33), .ref (ma 34), .ref (ma 35), .ref (ma 36), .ref (ma 37), .ref (ma 38), .ref (ma 39), .ref (ma 40), .ref (ma 41), .ref (ma 42), .ref (ma 43), .ref (ma 44), .ref (ma 45), .ref (ma 46), .ref (ma 47), .ref (ma 48), .int 0, .int 0, .int 0, .int 0, .int 0, .int 0, .int 0, .int 0, .int 0, .int 0, .ref (ma 59), .ref (ma 60), .int 0, .int 0, .int 0, .int 0, .int 0, .int 0, .ref (ma 67), .ref (ma 68), .ref (ma 69), .int 0, .int (-1), .int 0, .ref (ma 73)]))] s.heap := hP
  have hl := lv_entry ([.ref hm]) (n := 1) (Nat.le_of_ble_eq_true rfl)
  rw [lg_entry_eq]
  generalize (lg_sl ([.ref hm]) ++ List.replicate (1 - (lg_sl ([.ref hm])).length) Slot.unset).toArray = ls at hl ⊢
  have hl : lv_has ls 1 [(0, .ref hm)] := hl
  refine lv_aload_n hx hb dX12_place_0 rfl (lv_at hl 0 rfl) ?_
  refine lv_iconst (v := 0) hx hb dX12_place_1 (by decide) ?_
  refine va_put (D := D) (ci := 12) (v := .int 0) (ty := .int) (C := RX12) (T := TX12) (N := 74) hx hb hT i_TX12 tyX12 tyX12_ok nmX12 hown hK hP hD hS 0 rfl rfl 0 (by decide) (hT _ t_1715) (fun _ h9 => h9) rfl (by decide +kernel) rfl rfl (Nat.le_of_ble_eq_true rfl) dX12_place_2 (fun H locs hP hD hS => ?_)
  have hP : va_P D vwCl [(hm, .inr (12, [.int 0, .ref (ma 1), .int 0, .int (-1), .ref (ma 4), .int 0, .int 0, .int 0, .long 0, .int 0, .int 0, .int 0, .int 0, .long 0, .int 0, .int 0, .int 0, .ref (ma 17), .ref (ma 18), .ref (ma 19), .ref (ma 20), .ref (ma 21), .ref (ma 22), .ref (ma 23), .ref (ma 24), .ref (ma 25), .ref (ma 26), .ref (ma 27), .ref (ma 28), .ref (ma 29), .ref (ma 30), .ref (ma 31), .ref (ma 32), .ref (ma 33), .ref (ma 34), .ref (ma 35), .ref (ma 36), .ref (ma 37), .ref (ma 38), .ref (ma 39), .ref (ma 40), .ref (ma 41), .ref (ma 42), .ref (ma 43), .ref (ma 44), .ref (ma 45), .ref (ma 46), .ref (ma 47), .ref (ma 48), .int 0, .int 0, .int 0, .int 0, .int 0, .int 0, .int 0, .int 0, .int 0, .int 0, .ref (ma 59), .ref (ma 60), .int 0, .int 0, .int 0, .int 0, .int 0, .int 0, .ref (ma 67), .ref (ma 68), .ref (ma 69), .int 0, .int (-1), .int 0, .ref (ma 73)]))] H := hP
  have hD : va_D A [(hm, .inr (12, [.int 0, .ref (ma 1), .int 0, .int (-1), .ref (ma 4), .int 0, .int 0, .int 0, .long 0, .int 0, .int 0, .int 0, .int 0, .long 0, .int 0, .int 0, .int 0, .ref (ma 17), .ref (ma 18), .ref (ma 19), .ref (ma 20), .ref (ma 21), .ref (ma 22), .ref (ma 23), .ref (ma 24), .ref (ma 25), .ref (ma 26), .ref (ma 27), .ref (ma 28), .ref (ma 29), .ref (ma 30), .ref (ma 31), .ref (ma 32), .ref (ma 33), .ref (ma 34), .ref (ma 35), .ref (ma 36), .ref (ma 37), .ref (ma 38), .ref (ma 39), .ref (ma 40), .ref (ma 41), .ref (ma 42), .ref (ma 43), .ref (ma 44), .ref (ma 45), .ref (ma 46), .ref (ma 47), .ref (ma 48), .int 0, .int 0, .int 0, .int 0, .int 0, .int 0, .int 0, .int 0, .int 0, .int 0, .ref (ma 59), .ref (ma 60), .int 0, .int 0, .int 0, .int 0, .int 0, .int 0, .ref (ma 67), .ref (ma 68), .ref (ma 69), .int 0, .int (-1), .int 0, .ref (ma 73)]))] := hD
  refine lv_aload_n hx hb dX12_place_5 rfl (lv_at hl 0 rfl) ?_
  refine va_get (D := D) (ci := 12) (v := .int (-1)) (C := RX12) (T := TX12) (N := 74) hx hb hT i_TX12 hown hK hP 0 rfl rfl 3 (by decide) (hT _ t_1718) (fun _ h9 => h9) rfl dX12_place_6 ?_
  have hP9 := hP.sub (ws' := []) [] rfl
  have hD9 := hD.sub (ws' := []) [] (by decide) rfl
  refine W.widen (k := 0) (n := 0) (Nat.le_of_ble_eq_true rfl) (Nat.le_of_ble_eq_true rfl) ?_
  exact W.iret (v := (-1)) hx hb hr (fun t ht hW => ⟨⟨(-1), (), rfl, rfl, by rw [ht]; exact hP9, hD9⟩, hS.F ht⟩) hS.2.2 dX12_place_9

set_option maxHeartbeats 4000000 in
set_option maxRecDepth 100000 in
theorem c_typeAt (l : Launch) (D : va_G) (cy : Nat → ClassId) (sz : Nat) (h0 : Nat) (a1 : Nat) (a2 : Nat) (a3 : Nat) (a4 : Nat) (p0 : Int32) : Met l yX7_typeAt (.code yX7_typeAt cX7_typeAt 2 (some (.object "MakerStarts$Type")) :: TB) ({ frames := 0, cells := 0, slots := 0, locals := 0 }) (va_Pc [.ref h0, .int p0] (fun U => U.heap.size = sz ∧ va_P D vwCl [(h0, .inr (7, [.ref a1, .int 0, .ref a2, .ref a3, .int 0, .ref a4, .int 0, .int 0, .int 0]))] U.heap ∧ va_K D vwCl (TY cy) U ∧ va_D (fun _ => True) [(h0, .inr (7, [.ref a1, .int 0, .ref a2, .ref a3, .int 0, .ref a4, .int 0, .int 0, .int 0]))])) (va_Qq (fun (r : Option Nat) (u : Unit) => r = none) (fun (u : Unit) t => va_P D vwCl [(h0, .inr (7, [.ref a1, .int 0, .ref a2, .ref a3, .int 0, .ref a4, .int 0, .int 0, .int 0]))] t.heap ∧ va_D (va_A [(h0, .inr (7, [.ref a1, .int 0, .ref a2, .ref a3, .int 0, .ref a4, .int 0, .int 0, .int 0]))] sz) [(h0, .inr (7, [.ref a1, .int 0, .ref a2, .ref a3, .int 0, .ref a4, .int 0, .int 0, .int 0]))]) (va_A [(h0, .inr (7, [.ref a1, .int 0, .ref a2, .ref a3, .int 0, .ref a4, .int 0, .int 0, .int 0]))] sz)) 0 0 (va_A [(h0, .inr (7, [.ref a1, .int 0, .ref a2, .ref a3, .int 0, .ref a4, .int 0, .int 0, .int 0]))] sz) := by
  refine Met.ofW (cc := cX7_typeAt) (maxL := 2) (ret := (some (.object "MakerStarts$Type"))) (by decide) rfl ?_
  intro p e s m args below meth c s₁ B hml hv
  obtain ⟨rfl, hsz, hP, hK, hD0⟩ := hv
  have hx := B.exec
  have hb := B.bytes
  have hr := B.returns
  have hts := atoms_spec (ws := .code yX7_typeAt cX7_typeAt 2 (some (.object "MakerStarts$Type")) :: TB) B.pre
  have hT : ∀ w ∈ TB, w.before _ s = true := fun w h => hts w (List.mem_cons_of_mem _ h)
  have hown : s.vm.findClass "MakerStarts$Text" = some m.cls := findClass_of_methodNamed B.named
  have hlocks := B.notSynchronized
  subst hsz
  have hD := hD0.self (sz := s.heap.size)
  generalize hAe : va_A [(h0, .inr (7, [.ref a1, .int 0, .ref a2, .ref a3, .int 0, .ref a4, .int 0, .int 0, .int 0]))] s.heap.size = A at hD  ⊢
  have hA : ∀ q : Nat, s.heap.size ≤ q → A q := fun q h => by rw [← hAe]; exact Or.inr h
  have hS : va_S A s.heap s.heap [] := va_S.rf
  have hP : va_P D vwCl [(h0, .inr (7, [.ref a1, .int 0, .ref a2, .ref a3, .int 0, .ref a4, .int 0, .int 0, .int 0]))] s.heap := hP
  have hl := lv_entry ([.ref h0, .int p0]) (n := 2) (Nat.le_of_ble_eq_true rfl)
  rw [lg_entry_eq]
  generalize (lg_sl ([.ref h0, .int p0]) ++ List.replicate (2 - (lg_sl ([.ref h0, .int p0])).length) Slot.unset).toArray = ls at hl ⊢
  have hl : lv_has ls 2 [(0, .ref h0), (1, .int p0)] := hl
  refine lv_iload_n hx hb dX7_typeAt_0 rfl (lv_at hl 1 rfl) ?_
  refine lv_if_lt (tgt := 27) hx hb dX7_typeAt_1 (by decide) (fun c1 => ?_) (fun c1 => ?_)
  · refine lv_null hx hb dX7_typeAt_27 ?_
    have hP9 := hP.sub (ws' := [(h0, .inr (7, [.ref a1, .int 0, .ref a2, .ref a3, .int 0, .ref a4, .int 0, .int 0, .int 0]))]) [0] rfl
    have hD9 := hD.sub (ws' := [(h0, .inr (7, [.ref a1, .int 0, .ref a2, .ref a3, .int 0, .ref a4, .int 0, .int 0, .int 0]))]) [0] (by decide) rfl
    refine W.widen (k := 0) (n := 0) (Nat.le_of_ble_eq_true rfl) (Nat.le_of_ble_eq_true rfl) ?_
    exact W.aret (v := .null) hx hb hr (Or.inl ⟨_, rfl⟩) (Or.inl rfl) (fun t ht hW => ⟨⟨none, (), rfl, rfl, by rw [ht]; exact hP9, hD9⟩, hS.F ht⟩) hS.2.2 dX7_typeAt_28
  · refine lv_iload_n hx hb dX7_typeAt_4 rfl (lv_at hl 1 rfl) ?_
    refine lv_aload_n hx hb dX7_typeAt_5 rfl (lv_at hl 0 rfl) ?_
    refine va_get (D := D) (ci := 7) (v := .int 0) (C := RX7) (T := TX7) (N := 9) hx hb hT i_TX7 hown hK hP 0 rfl rfl 1 (by decide) (hT _ t_214) (fun _ h9 => h9) rfl dX7_typeAt_6 ?_
    refine lv_icmp_ge (tgt := 27) hx hb dX7_typeAt_9 (by decide) (fun _ => ?_) (fun c9 => absurd (Int32.not_lt.mp c1) c9)
    refine lv_null hx hb dX7_typeAt_27 ?_
    have hP9 := hP.sub (ws' := [(h0, .inr (7, [.ref a1, .int 0, .ref a2, .ref a3, .int 0, .ref a4, .int 0, .int 0, .int 0]))]) [0] rfl
    have hD9 := hD.sub (ws' := [(h0, .inr (7, [.ref a1, .int 0, .ref a2, .ref a3, .int 0, .ref a4, .int 0, .int 0, .int 0]))]) [0] (by decide) rfl
    refine W.widen (k := 0) (n := 0) (Nat.le_of_ble_eq_true rfl) (Nat.le_of_ble_eq_true rfl) ?_
    exact W.aret (v := .null) hx hb hr (Or.inl ⟨_, rfl⟩) (Or.inl rfl) (fun t ht hW => ⟨⟨none, (), rfl, rfl, by rw [ht]; exact hP9, hD9⟩, hS.F ht⟩) hS.2.2 dX7_typeAt_28

set_option maxHeartbeats 4000000 in
set_option maxRecDepth 100000 in
theorem c_typeAt1 (l : Launch) (D : va_G) (cy : Nat → ClassId) (sz : Nat) (h0 : Nat) (a1 : Nat) (a2 : Nat) (a3 : Nat) (a4 : Nat) (p0 : Int32) : Met l yX7_typeAt (.code yX7_typeAt cX7_typeAt 2 (some (.object "MakerStarts$Type")) :: TB) ({ frames := 0, cells := 0, slots := 0, locals := 0 }) (va_Pc [.ref h0, .int p0] (fun U => U.heap.size = sz ∧ va_P D vwCl [(h0, .inr (7, [.ref a1, .int 0, .ref a2, .ref a3, .int 0, .ref a4, .int 0, .int 0, .int (-1)]))] U.heap ∧ va_K D vwCl (TY cy) U ∧ va_D (fun _ => True) [(h0, .inr (7, [.ref a1, .int 0, .ref a2, .ref a3, .int 0, .ref a4, .int 0, .int 0, .int (-1)]))])) (va_Qq (fun (r : Option Nat) (u : Unit) => r = none) (fun (u : Unit) t => va_P D vwCl [(h0, .inr (7, [.ref a1, .int 0, .ref a2, .ref a3, .int 0, .ref a4, .int 0, .int 0, .int (-1)]))] t.heap ∧ va_D (va_A [(h0, .inr (7, [.ref a1, .int 0, .ref a2, .ref a3, .int 0, .ref a4, .int 0, .int 0, .int (-1)]))] sz) [(h0, .inr (7, [.ref a1, .int 0, .ref a2, .ref a3, .int 0, .ref a4, .int 0, .int 0, .int (-1)]))]) (va_A [(h0, .inr (7, [.ref a1, .int 0, .ref a2, .ref a3, .int 0, .ref a4, .int 0, .int 0, .int (-1)]))] sz)) 0 0 (va_A [(h0, .inr (7, [.ref a1, .int 0, .ref a2, .ref a3, .int 0, .ref a4, .int 0, .int 0, .int (-1)]))] sz) := by
  refine Met.ofW (cc := cX7_typeAt) (maxL := 2) (ret := (some (.object "MakerStarts$Type"))) (by decide) rfl ?_
  intro p e s m args below meth c s₁ B hml hv
  obtain ⟨rfl, hsz, hP, hK, hD0⟩ := hv
  have hx := B.exec
  have hb := B.bytes
  have hr := B.returns
  have hts := atoms_spec (ws := .code yX7_typeAt cX7_typeAt 2 (some (.object "MakerStarts$Type")) :: TB) B.pre
  have hT : ∀ w ∈ TB, w.before _ s = true := fun w h => hts w (List.mem_cons_of_mem _ h)
  have hown : s.vm.findClass "MakerStarts$Text" = some m.cls := findClass_of_methodNamed B.named
  have hlocks := B.notSynchronized
  subst hsz
  have hD := hD0.self (sz := s.heap.size)
  generalize hAe : va_A [(h0, .inr (7, [.ref a1, .int 0, .ref a2, .ref a3, .int 0, .ref a4, .int 0, .int 0, .int (-1)]))] s.heap.size = A at hD  ⊢
  have hA : ∀ q : Nat, s.heap.size ≤ q → A q := fun q h => by rw [← hAe]; exact Or.inr h
  have hS : va_S A s.heap s.heap [] := va_S.rf
  have hP : va_P D vwCl [(h0, .inr (7, [.ref a1, .int 0, .ref a2, .ref a3, .int 0, .ref a4, .int 0, .int 0, .int (-1)]))] s.heap := hP
  have hl := lv_entry ([.ref h0, .int p0]) (n := 2) (Nat.le_of_ble_eq_true rfl)
  rw [lg_entry_eq]
  generalize (lg_sl ([.ref h0, .int p0]) ++ List.replicate (2 - (lg_sl ([.ref h0, .int p0])).length) Slot.unset).toArray = ls at hl ⊢
  have hl : lv_has ls 2 [(0, .ref h0), (1, .int p0)] := hl
  refine lv_iload_n hx hb dX7_typeAt_0 rfl (lv_at hl 1 rfl) ?_
  refine lv_if_lt (tgt := 27) hx hb dX7_typeAt_1 (by decide) (fun c1 => ?_) (fun c1 => ?_)
  · refine lv_null hx hb dX7_typeAt_27 ?_
    have hP9 := hP.sub (ws' := [(h0, .inr (7, [.ref a1, .int 0, .ref a2, .ref a3, .int 0, .ref a4, .int 0, .int 0, .int (-1)]))]) [0] rfl
    have hD9 := hD.sub (ws' := [(h0, .inr (7, [.ref a1, .int 0, .ref a2, .ref a3, .int 0, .ref a4, .int 0, .int 0, .int (-1)]))]) [0] (by decide) rfl
    refine W.widen (k := 0) (n := 0) (Nat.le_of_ble_eq_true rfl) (Nat.le_of_ble_eq_true rfl) ?_
    exact W.aret (v := .null) hx hb hr (Or.inl ⟨_, rfl⟩) (Or.inl rfl) (fun t ht hW => ⟨⟨none, (), rfl, rfl, by rw [ht]; exact hP9, hD9⟩, hS.F ht⟩) hS.2.2 dX7_typeAt_28
  · refine lv_iload_n hx hb dX7_typeAt_4 rfl (lv_at hl 1 rfl) ?_
    refine lv_aload_n hx hb dX7_typeAt_5 rfl (lv_at hl 0 rfl) ?_
    refine va_get (D := D) (ci := 7) (v := .int 0) (C := RX7) (T := TX7) (N := 9) hx hb hT i_TX7 hown hK hP 0 rfl rfl 1 (by decide) (hT _ t_214) (fun _ h9 => h9) rfl dX7_typeAt_6 ?_
    refine lv_icmp_ge (tgt := 27) hx hb dX7_typeAt_9 (by decide) (fun _ => ?_) (fun c9 => absurd (Int32.not_lt.mp c1) c9)
    refine lv_null hx hb dX7_typeAt_27 ?_
    have hP9 := hP.sub (ws' := [(h0, .inr (7, [.ref a1, .int 0, .ref a2, .ref a3, .int 0, .ref a4, .int 0, .int 0, .int (-1)]))]) [0] rfl
    have hD9 := hD.sub (ws' := [(h0, .inr (7, [.ref a1, .int 0, .ref a2, .ref a3, .int 0, .ref a4, .int 0, .int 0, .int (-1)]))]) [0] (by decide) rfl
    refine W.widen (k := 0) (n := 0) (Nat.le_of_ble_eq_true rfl) (Nat.le_of_ble_eq_true rfl) ?_
    exact W.aret (v := .null) hx hb hr (Or.inl ⟨_, rfl⟩) (Or.inl rfl) (fun t ht hW => ⟨⟨none, (), rfl, rfl, by rw [ht]; exact hP9, hD9⟩, hS.F ht⟩) hS.2.2 dX7_typeAt_28

def tld (x : Int32) : Int32 := if x < 0 then -2 else if nI 5 ≤ x then -2 else 0

theorem tld_n {x : Int32} (h : x < 0) : tld x = -2 := by unfold tld; rw [if_pos h]
theorem tld_b {x : Int32} (h : nI 5 ≤ x) : tld x = -2 := by unfold tld; split <;> first | rfl | (rw [if_pos h])
theorem tld_ne {x : Int32} (h : x < 0 ∨ nI 5 ≤ x) (k : Nat) (hk : k < 5) : ¬ x = nI k := by
  rintro rfl
  rcases h with h | h
  · exact nI_pos (by omega) h
  · exact nI_ge hk (by decide) h
theorem tb_neg {x : Int32} (h : x < 0) : x.toInt < 0 := by have := Int32.lt_iff_toInt_lt.mp h; simpa using this
theorem tb_big {x : Int32} {n : Nat} (hn : n < 2 ^ 31) (h : nI n ≤ x) : (n : Int) - 1 < x.toInt := by
  have := Int32.le_iff_toInt_le.mp h
  rw [nI_toInt hn] at this
  omega

set_option maxHeartbeats 4000000 in
set_option maxRecDepth 100000 in
theorem c_told (l : Launch) (D : va_G) (cy : Nat → ClassId) (sz : Nat) (hx0 : Nat) (xa : Nat → Nat) (p0 : Int32) : Met l yX11_told (.code yX11_told cX11_told 2 (some .int) :: TB) ({ frames := 0, cells := 0, slots := 0, locals := 0 }) (va_Pc [.ref hx0, .int p0] (fun U => U.heap.size = sz ∧ va_P D vwCl [(hx0, .inr (11, [.ref (xa 0), .int 0, .int (-1), .ref (xa 1), .ref (xa 2), .ref (xa 3), .ref (xa 4), .ref (xa 5)])), ((xa 1), .inr (7, [.ref (xa 6), .int 0, .ref (xa 7), .ref (xa 8), .int 0, .ref (xa 9), .int 0, .int 0, .int 0])), ((xa 5), .inr (4, [.ref (xa 1), .ref (xa 22), .ref (xa 23), .ref (xa 24), .int 0, .int 0, .int 0, .ref (xa 25), .int 0, .ref (xa 26), .int 0, .int 0, .int 0, .ref (xa 27), .ref (xa 27), .int 0, .int 0, .int 0, .int 1, .int 0]))] U.heap ∧ va_K D vwCl (TY cy) U ∧ va_D (fun _ => True) [(hx0, .inr (11, [.ref (xa 0), .int 0, .int (-1), .ref (xa 1), .ref (xa 2), .ref (xa 3), .ref (xa 4), .ref (xa 5)])), ((xa 1), .inr (7, [.ref (xa 6), .int 0, .ref (xa 7), .ref (xa 8), .int 0, .ref (xa 9), .int 0, .int 0, .int 0])), ((xa 5), .inr (4, [.ref (xa 1), .ref (xa 22), .ref (xa 23), .ref (xa 24), .int 0, .int 0, .int 0, .ref (xa 25), .int 0, .ref (xa 26), .int 0, .int 0, .int 0, .ref (xa 27), .ref (xa 27), .int 0, .int 0, .int 0, .int 1, .int 0]))])) (va_Qi (fun (r : Int32) (u : Unit) => r = tld p0) (fun (u : Unit) t => va_P D vwCl [] t.heap ∧ va_D (va_A [(hx0, .inr (11, [.ref (xa 0), .int 0, .int (-1), .ref (xa 1), .ref (xa 2), .ref (xa 3), .ref (xa 4), .ref (xa 5)])), ((xa 1), .inr (7, [.ref (xa 6), .int 0, .ref (xa 7), .ref (xa 8), .int 0, .ref (xa 9), .int 0, .int 0, .int 0])), ((xa 5), .inr (4, [.ref (xa 1), .ref (xa 22), .ref (xa 23), .ref (xa 24), .int 0, .int 0, .int 0, .ref (xa 25), .int 0, .ref (xa 26), .int 0, .int 0, .int 0, .ref (xa 27), .ref (xa 27), .int 0, .int 0, .int 0, .int 1, .int 0]))] sz) []) (va_A [(hx0, .inr (11, [.ref (xa 0), .int 0, .int (-1), .ref (xa 1), .ref (xa 2), .ref (xa 3), .ref (xa 4), .ref (xa 5)])), ((xa 1), .inr (7, [.ref (xa 6), .int 0, .ref (xa 7), .ref (xa 8), .int 0, .ref (xa 9), .int 0, .int 0, .int 0])), ((xa 5), .inr (4, [.ref (xa 1), .ref (xa 22), .ref (xa 23), .ref (xa 24), .int 0, .int 0, .int 0, .ref (xa 25), .int 0, .ref (xa 26), .int 0, .int 0, .int 0, .ref (xa 27), .ref (xa 27), .int 0, .int 0, .int 0, .int 1, .int 0]))] sz)) 0 0 (va_A [(hx0, .inr (11, [.ref (xa 0), .int 0, .int (-1), .ref (xa 1), .ref (xa 2), .ref (xa 3), .ref (xa 4), .ref (xa 5)])), ((xa 1), .inr (7, [.ref (xa 6), .int 0, .ref (xa 7), .ref (xa 8), .int 0, .ref (xa 9), .int 0, .int 0, .int 0])), ((xa 5), .inr (4, [.ref (xa 1), .ref (xa 22), .ref (xa 23), .ref (xa 24), .int 0, .int 0, .int 0, .ref (xa 25), .int 0, .ref (xa 26), .int 0, .int 0, .int 0, .ref (xa 27), .ref (xa 27), .int 0, .int 0, .int 0, .int 1, .int 0]))] sz) := by
  refine Met.ofW (cc := cX11_told) (maxL := 2) (ret := (some .int)) (by decide) rfl ?_
  intro p e s m args below meth c s₁ B hml hv
  obtain ⟨rfl, hsz, hP, hK, hD0⟩ := hv
  have hx := B.exec
  have hb := B.bytes
  have hr := B.returns
  have hts := atoms_spec (ws := .code yX11_told cX11_told 2 (some .int) :: TB) B.pre
  have hT : ∀ w ∈ TB, w.before _ s = true := fun w h => hts w (List.mem_cons_of_mem _ h)
  have hown : s.vm.findClass "MakerStarts" = some m.cls := findClass_of_methodNamed B.named
  have hlocks := B.notSynchronized
  subst hsz
  have hD := hD0.self (sz := s.heap.size)
  generalize hAe : va_A [(hx0, .inr (11, [.ref (xa 0), .int 0, .int (-1), .ref (xa 1), .ref (xa 2), .ref (xa 3), .ref (xa 4), .ref (xa 5)])), ((xa 1), .inr (7, [.ref (xa 6), .int 0, .ref (xa 7), .ref (xa 8), .int 0, .ref (xa 9), .int 0, .int 0, .int 0])), ((xa 5), .inr (4, [.ref (xa 1), .ref (xa 22), .ref (xa 23), .ref (xa 24), .int 0, .int 0, .int 0, .ref (xa 25), .int 0, .ref (xa 26), .int 0, .int 0, .int 0, .ref (xa 27), .ref (xa 27), .int 0, .int 0, .int 0, .int 1, .int 0]))] s.heap.size = A at hD  ⊢
  have hA : ∀ q : Nat, s.heap.size ≤ q → A q := fun q h => by rw [← hAe]; exact Or.inr h
  have hS : va_S A s.heap s.heap [] := va_S.rf
  have hP : va_P D vwCl [(hx0, .inr (11, [.ref (xa 0), .int 0, .int (-1), .ref (xa 1), .ref (xa 2), .ref (xa 3), .ref (xa 4), .ref (xa 5)])), ((xa 1), .inr (7, [.ref (xa 6), .int 0, .ref (xa 7), .ref (xa 8), .int 0, .ref (xa 9), .int 0, .int 0, .int 0])), ((xa 5), .inr (4, [.ref (xa 1), .ref (xa 22), .ref (xa 23), .ref (xa 24), .int 0, .int 0, .int 0, .ref (xa 25), .int 0, .ref (xa 26), .int 0, .int 0, .int 0, .ref (xa 27), .ref (xa 27), .int 0, .int 0, .int 0, .int 1, .int 0]))] s.heap := hP
  have hl := lv_entry ([.ref hx0, .int p0]) (n := 2) (Nat.le_of_ble_eq_true rfl)
  rw [lg_entry_eq]
  generalize (lg_sl ([.ref hx0, .int p0]) ++ List.replicate (2 - (lg_sl ([.ref hx0, .int p0])).length) Slot.unset).toArray = ls at hl ⊢
  have hl : lv_has ls 2 [(0, .ref hx0), (1, .int p0)] := hl
  refine lv_iload_n hx hb dX11_told_0 rfl (lv_at hl 1 rfl) ?_
  rcases pk_ix p0 (n := 5) (by decide) with h5 | h5 | ⟨j5, hj5, rfl⟩
  · refine lv_tableOut (tgt := 73) hx hb dX11_told_1 (Or.inl (tb_neg h5)) (by decide) ?_
    refine lv_bipush (v := (-2)) hx hb dX11_told_73 (by decide) ?_
    have hP9 := hP.sub (ws' := []) [] rfl
    have hD9 := hD.sub (ws' := []) [] (by decide) rfl
    refine W.widen (k := 0) (n := 0) (Nat.le_of_ble_eq_true rfl) (Nat.le_of_ble_eq_true rfl) ?_
    exact W.iret (v := (-2)) hx hb hr (fun t ht hW => ⟨⟨(-2), (), rfl, (tld_n h5).symm, by rw [ht]; exact hP9, hD9⟩, hS.F ht⟩) hS.2.2 dX11_told_75
  · refine lv_tableOut (tgt := 73) hx hb dX11_told_1 (Or.inr (tb_big (n := 5) (by decide) h5)) (by decide) ?_
    refine lv_bipush (v := (-2)) hx hb dX11_told_73 (by decide) ?_
    have hP9 := hP.sub (ws' := []) [] rfl
    have hD9 := hD.sub (ws' := []) [] (by decide) rfl
    refine W.widen (k := 0) (n := 0) (Nat.le_of_ble_eq_true rfl) (Nat.le_of_ble_eq_true rfl) ?_
    exact W.iret (v := (-2)) hx hb hr (fun t ht hW => ⟨⟨(-2), (), rfl, (tld_b h5).symm, by rw [ht]; exact hP9, hD9⟩, hS.F ht⟩) hS.2.2 dX11_told_75
  · rcases (show j5 = 0 ∨ j5 = 1 ∨ j5 = 2 ∨ j5 = 3 ∨ j5 = 4 by omega) with rfl | rfl | rfl | rfl | rfl
    · refine lv_tableIn (off := 35) (tgt := 36) hx hb dX11_told_1 (by decide) (by decide) (by decide) (by decide) ?_
      refine lv_aload_n hx hb dX11_told_36 rfl (lv_at hl 0 rfl) ?_
      refine va_get (D := D) (ci := 11) (v := .ref (xa 1)) (C := RX11) (T := TX11) (N := 8) hx hb hT i_TX11 hown hK hP 0 rfl rfl 3 (by decide) (hT _ t_536) (fun _ h9 => h9) rfl dX11_told_37 ?_
      refine va_get (D := D) (ci := 7) (v := .int 0) (C := RX7) (T := TX7) (N := 9) hx hb hT i_TX7 hown hK hP 1 rfl rfl 1 (by decide) (hT _ t_217) (fun _ h9 => h9) rfl dX11_told_40 ?_
      have hP9 := hP.sub (ws' := []) [] rfl
      have hD9 := hD.sub (ws' := []) [] (by decide) rfl
      refine W.widen (k := 0) (n := 0) (Nat.le_of_ble_eq_true rfl) (Nat.le_of_ble_eq_true rfl) ?_
      exact W.iret (v := 0) hx hb hr (fun t ht hW => ⟨⟨0, (), rfl, (by decide), by rw [ht]; exact hP9, hD9⟩, hS.F ht⟩) hS.2.2 dX11_told_43
    · refine lv_tableIn (off := 43) (tgt := 44) hx hb dX11_told_1 (by decide) (by decide) (by decide) (by decide) ?_
      refine lv_aload_n hx hb dX11_told_44 rfl (lv_at hl 0 rfl) ?_
      refine va_get (D := D) (ci := 11) (v := .ref (xa 5)) (C := RX11) (T := TX11) (N := 8) hx hb hT i_TX11 hown hK hP 0 rfl rfl 7 (by decide) (hT _ t_540) (fun _ h9 => h9) rfl dX11_told_45 ?_
      refine va_get (D := D) (ci := 4) (v := .int 0) (C := RX4) (T := TX4) (N := 20) hx hb hT i_TX4 hown hK hP 2 rfl rfl 4 (by decide) (hT _ t_474) (fun _ h9 => h9) rfl dX11_told_48 ?_
      have hP9 := hP.sub (ws' := []) [] rfl
      have hD9 := hD.sub (ws' := []) [] (by decide) rfl
      refine W.widen (k := 0) (n := 0) (Nat.le_of_ble_eq_true rfl) (Nat.le_of_ble_eq_true rfl) ?_
      exact W.iret (v := 0) hx hb hr (fun t ht hW => ⟨⟨0, (), rfl, (by decide), by rw [ht]; exact hP9, hD9⟩, hS.F ht⟩) hS.2.2 dX11_told_51
    · refine lv_tableIn (off := 51) (tgt := 52) hx hb dX11_told_1 (by decide) (by decide) (by decide) (by decide) ?_
      refine lv_aload_n hx hb dX11_told_52 rfl (lv_at hl 0 rfl) ?_
      refine va_get (D := D) (ci := 11) (v := .int 0) (C := RX11) (T := TX11) (N := 8) hx hb hT i_TX11 hown hK hP 0 rfl rfl 1 (by decide) (hT _ t_534) (fun _ h9 => h9) rfl dX11_told_53 ?_
      have hP9 := hP.sub (ws' := []) [] rfl
      have hD9 := hD.sub (ws' := []) [] (by decide) rfl
      refine W.widen (k := 0) (n := 0) (Nat.le_of_ble_eq_true rfl) (Nat.le_of_ble_eq_true rfl) ?_
      exact W.iret (v := 0) hx hb hr (fun t ht hW => ⟨⟨0, (), rfl, (by decide), by rw [ht]; exact hP9, hD9⟩, hS.F ht⟩) hS.2.2 dX11_told_56
    · refine lv_tableIn (off := 56) (tgt := 57) hx hb dX11_told_1 (by decide) (by decide) (by decide) (by decide) ?_
      refine lv_aload_n hx hb dX11_told_57 rfl (lv_at hl 0 rfl) ?_
      refine va_get (D := D) (ci := 11) (v := .ref (xa 5)) (C := RX11) (T := TX11) (N := 8) hx hb hT i_TX11 hown hK hP 0 rfl rfl 7 (by decide) (hT _ t_540) (fun _ h9 => h9) rfl dX11_told_58 ?_
      refine va_get (D := D) (ci := 4) (v := .int 0) (C := RX4) (T := TX4) (N := 20) hx hb hT i_TX4 hown hK hP 2 rfl rfl 5 (by decide) (hT _ t_476) (fun _ h9 => h9) rfl dX11_told_61 ?_
      have hP9 := hP.sub (ws' := []) [] rfl
      have hD9 := hD.sub (ws' := []) [] (by decide) rfl
      refine W.widen (k := 0) (n := 0) (Nat.le_of_ble_eq_true rfl) (Nat.le_of_ble_eq_true rfl) ?_
      exact W.iret (v := 0) hx hb hr (fun t ht hW => ⟨⟨0, (), rfl, (by decide), by rw [ht]; exact hP9, hD9⟩, hS.F ht⟩) hS.2.2 dX11_told_64
    · refine lv_tableIn (off := 64) (tgt := 65) hx hb dX11_told_1 (by decide) (by decide) (by decide) (by decide) ?_
      refine lv_aload_n hx hb dX11_told_65 rfl (lv_at hl 0 rfl) ?_
      refine va_get (D := D) (ci := 11) (v := .ref (xa 5)) (C := RX11) (T := TX11) (N := 8) hx hb hT i_TX11 hown hK hP 0 rfl rfl 7 (by decide) (hT _ t_540) (fun _ h9 => h9) rfl dX11_told_66 ?_
      refine va_get (D := D) (ci := 4) (v := .int 0) (C := RX4) (T := TX4) (N := 20) hx hb hT i_TX4 hown hK hP 2 rfl rfl 6 (by decide) (hT _ t_478) (fun _ h9 => h9) rfl dX11_told_69 ?_
      have hP9 := hP.sub (ws' := []) [] rfl
      have hD9 := hD.sub (ws' := []) [] (by decide) rfl
      refine W.widen (k := 0) (n := 0) (Nat.le_of_ble_eq_true rfl) (Nat.le_of_ble_eq_true rfl) ?_
      exact W.iret (v := 0) hx hb hr (fun t ht hW => ⟨⟨0, (), rfl, (by decide), by rw [ht]; exact hP9, hD9⟩, hS.F ht⟩) hS.2.2 dX11_told_72

set_option maxHeartbeats 4000000 in
set_option maxRecDepth 100000 in
theorem m_told (l : Launch) (D : va_G) (cy : Nat → ClassId) (sz : Nat) (hm : Nat) (ma : Nat → Nat) (p0 : Int32) : Met l yX12_told (.code yX12_told cX12_told 2 (some .int) :: TB) ({ frames := 0, cells := 0, slots := 0, locals := 0 }) (va_Pc [.ref hm, .int p0] (fun U => U.heap.size = sz ∧ va_P D vwCl [(hm, .inr (12, [.int 0, .ref (ma 1), .int 0, .int (-1), .ref (ma 4), .int 0, .int 0, .int 0, .long 0, .int 0, .int 0, .int 0, .int 0, .long 0, .int 0, .int 0, .int 0, .ref (ma 17), .ref (ma 18), .ref (ma 19), .ref (ma 20), .ref (ma 21), .ref (ma 22), .ref (ma 23), .ref (ma 24), .ref (ma 25), .ref (ma 26), .ref (ma 27), .ref (ma 28), .ref (ma 29), .ref (ma 30), .ref (ma 31), .ref (ma 32), .ref (ma 33), .ref (ma 34), .ref (ma 35), .ref (ma 36), .ref (ma 37), .ref (ma 38), .ref (ma 39), .ref (ma 40), .ref (ma 41), .ref (ma 42), .ref (ma 43), .ref (ma 44), .ref (ma 45), .ref (ma 46), .ref (ma 47), .ref (ma 48), .int 0, .int 0, .int 0, .int 0, .int 0, .int 0, .int 0, .int 0, .int 0, .int 0, .ref (ma 59), .ref (ma 60), .int 0, .int 0, .int 0, .int 0, .int 0, .int 0, .ref (ma 67), .ref (ma 68), .ref (ma 69), .int 0, .int (-1), .int 0, .ref (ma 73)])), ((ma 17), .inl (cy 1, 2, .inl (fun _ => 0)))] U.heap ∧ va_K D vwCl (TY cy) U ∧ va_D (fun _ => True) [(hm, .inr (12, [.int 0, .ref (ma 1), .int 0, .int (-1), .ref (ma 4), .int 0, .int 0, .int 0, .long 0, .int 0, .int 0, .int 0, .int 0, .long 0, .int 0, .int 0, .int 0, .ref (ma 17), .ref (ma 18), .ref (ma 19), .ref (ma 20), .ref (ma 21), .ref (ma 22), .ref (ma 23), .ref (ma 24), .ref (ma 25), .ref (ma 26), .ref (ma 27), .ref (ma 28), .ref (ma 29), .ref (ma 30), .ref (ma 31), .ref (ma 32), .ref (ma 33), .ref (ma 34), .ref (ma 35), .ref (ma 36), .ref (ma 37), .ref (ma 38), .ref (ma 39), .ref (ma 40), .ref (ma 41), .ref (ma 42), .ref (ma 43), .ref (ma 44), .ref (ma 45), .ref (ma 46), .ref (ma 47), .ref (ma 48), .int 0, .int 0, .int 0, .int 0, .int 0, .int 0, .int 0, .int 0, .int 0, .int 0, .ref (ma 59), .ref (ma 60), .int 0, .int 0, .int 0, .int 0, .int 0, .int 0, .ref (ma 67), .ref (ma 68), .ref (ma 69), .int 0, .int (-1), .int 0, .ref (ma 73)])), ((ma 17), .inl (cy 1, 2, .inl (fun _ => 0)))])) (va_Qi (fun (r : Int32) (u : Unit) => r = tld p0) (fun (u : Unit) t => va_P D vwCl [] t.heap ∧ va_D (va_A [(hm, .inr (12, [.int 0, .ref (ma 1), .int 0, .int (-1), .ref (ma 4), .int 0, .int 0, .int 0, .long 0, .int 0, .int 0, .int 0, .int 0, .long 0, .int 0, .int 0, .int 0, .ref (ma 17), .ref (ma 18), .ref (ma 19), .ref (ma 20), .ref (ma 21), .ref (ma 22), .ref (ma 23), .ref (ma 24), .ref (ma 25), .ref (ma 26), .ref (ma 27), .ref (ma 28), .ref (ma 29), .ref (ma 30), .ref (ma 31), .ref (ma 32), .ref (ma 33), .ref (ma 34), .ref (ma 35), .ref (ma 36), .ref (ma 37), .ref (ma 38), .ref (ma 39), .ref (ma 40), .ref (ma 41), .ref (ma 42), .ref (ma 43), .ref (ma 44), .ref (ma 45), .ref (ma 46), .ref (ma 47), .ref (ma 48), .int 0, .int 0, .int 0, .int 0, .int 0, .int 0, .int 0, .int 0, .int 0, .int 0, .ref (ma 59), .ref (ma 60), .int 0, .int 0, .int 0, .int 0, .int 0, .int 0, .ref (ma 67), .ref (ma 68), .ref (ma 69), .int 0, .int (-1), .int 0, .ref (ma 73)])), ((ma 17), .inl (cy 1, 2, .inl (fun _ => 0)))] sz) []) (va_A [(hm, .inr (12, [.int 0, .ref (ma 1), .int 0, .int (-1), .ref (ma 4), .int 0, .int 0, .int 0, .long 0, .int 0, .int 0, .int 0, .int 0, .long 0, .int 0, .int 0, .int 0, .ref (ma 17), .ref (ma 18), .ref (ma 19), .ref (ma 20), .ref (ma 21), .ref (ma 22), .ref (ma 23), .ref (ma 24), .ref (ma 25), .ref (ma 26), .ref (ma 27), .ref (ma 28), .ref (ma 29), .ref (ma 30), .ref (ma 31), .ref (ma 32), .ref (ma 33), .ref (ma 34), .ref (ma 35), .ref (ma 36), .ref (ma 37), .ref (ma 38), .ref (ma 39), .ref (ma 40), .ref (ma 41), .ref (ma 42), .ref (ma 43), .ref (ma 44), .ref (ma 45), .ref (ma 46), .ref (ma 47), .ref (ma 48), .int 0, .int 0, .int 0, .int 0, .int 0, .int 0, .int 0, .int 0, .int 0, .int 0, .ref (ma 59), .ref (ma 60), .int 0, .int 0, .int 0, .int 0, .int 0, .int 0, .ref (ma 67), .ref (ma 68), .ref (ma 69), .int 0, .int (-1), .int 0, .ref (ma 73)])), ((ma 17), .inl (cy 1, 2, .inl (fun _ => 0)))] sz)) 0 0 (va_A [(hm, .inr (12, [.int 0, .ref (ma 1), .int 0, .int (-1), .ref (ma 4), .int 0, .int 0, .int 0, .long 0, .int 0, .int 0, .int 0, .int 0, .long 0, .int 0, .int 0, .int 0, .ref (ma 17), .ref (ma 18), .ref (ma 19), .ref (ma 20), .ref (ma 21), .ref (ma 22), .ref (ma 23), .ref (ma 24), .ref (ma 25), .ref (ma 26), .ref (ma 27), .ref (ma 28), .ref (ma 29), .ref (ma 30), .ref (ma 31), .ref (ma 32), .ref (ma 33), .ref (ma 34), .ref (ma 35), .ref (ma 36), .ref (ma 37), .ref (ma 38), .ref (ma 39), .ref (ma 40), .ref (ma 41), .ref (ma 42), .ref (ma 43), .ref (ma 44), .ref (ma 45), .ref (ma 46), .ref (ma 47), .ref (ma 48), .int 0, .int 0, .int 0, .int 0, .int 0, .int 0, .int 0, .int 0, .int 0, .int 0, .ref (ma 59), .ref (ma 60), .int 0, .int 0, .int 0, .int 0, .int 0, .int 0, .ref (ma 67), .ref (ma 68), .ref (ma 69), .int 0, .int (-1), .int 0, .ref (ma 73)])), ((ma 17), .inl (cy 1, 2, .inl (fun _ => 0)))] sz) := by
  refine Met.ofW (cc := cX12_told) (maxL := 2) (ret := (some .int)) (by decide) rfl ?_
  intro p e s m args below meth c s₁ B hml hv
  obtain ⟨rfl, hsz, hP, hK, hD0⟩ := hv
  have hx := B.exec
  have hb := B.bytes
  have hr := B.returns
  have hts := atoms_spec (ws := .code yX12_told cX12_told 2 (some .int) :: TB) B.pre
  have hT : ∀ w ∈ TB, w.before _ s = true := fun w h => hts w (List.mem_cons_of_mem _ h)
  have hown : s.vm.findClass "MakerStartsModel" = some m.cls := findClass_of_methodNamed B.named
  have hlocks := B.notSynchronized
  subst hsz
  have hD := hD0.self (sz := s.heap.size)
  generalize hAe : va_A [(hm, .inr (12, [.int 0, .ref (ma 1), .int 0, .int (-1), .ref (ma 4), .int 0, .int 0, .int 0, .long 0, .int 0, .int 0, .int 0, .int 0, .long 0, .int 0, .int 0, .int 0, .ref (ma 17), .ref (ma 18), .ref (ma 19), .ref (ma 20), .ref (ma 21), .ref (ma 22), .ref (ma 23), .ref (ma 24), .ref (ma 25), .ref (ma 26), .ref (ma 27), .ref (ma 28), .ref (ma 29), .ref (ma 30), .ref (ma 31), .ref (ma 32), .ref (ma 33), .ref (ma 34), .ref (ma 35), .ref (ma 36), .ref (ma 37), .ref (ma 38), .ref (ma 39), .ref (ma 40), .ref (ma 41), .ref (ma 42), .ref (ma 43), .ref (ma 44), .ref (ma 45), .ref (ma 46), .ref (ma 47), .ref (ma 48), .int 0, .int 0, .int 0, .int 0, .int 0, .int 0, .int 0, .int 0, .int 0, .int 0, .ref (ma 59), .ref (ma 60), .int 0, .int 0, .int 0, .int 0, .int 0, .int 0, .ref (ma 67), .ref (ma 68), .ref (ma 69), .int 0, .int (-1), .int 0, .ref (ma 73)])), ((ma 17), .inl (cy 1, 2, .inl (fun _ => 0)))] s.heap.size = A at hD  ⊢
  have hA : ∀ q : Nat, s.heap.size ≤ q → A q := fun q h => by rw [← hAe]; exact Or.inr h
  have hS : va_S A s.heap s.heap [] := va_S.rf
  have hP : va_P D vwCl [(hm, .inr (12, [.int 0, .ref (ma 1), .int 0, .int (-1), .ref (ma 4), .int 0, .int 0, .int 0, .long 0, .int 0, .int 0, .int 0, .int 0, .long 0, .int 0, .int 0, .int 0, .ref (ma 17), .ref (ma 18), .ref (ma 19), .ref (ma 20), .ref (ma 21), .ref (ma 22), .ref (ma 23), .ref (ma 24), .ref (ma 25), .ref (ma 26), .ref (ma 27), .ref (ma 28), .ref (ma 29), .ref (ma 30), .ref (ma 31), .ref (ma 32), .ref (ma 33), .ref (ma 34), .ref (ma 35), .ref (ma 36), .ref (ma 37), .ref (ma 38), .ref (ma 39), .ref (ma 40), .ref (ma 41), .ref (ma 42), .ref (ma 43), .ref (ma 44), .ref (ma 45), .ref (ma 46), .ref (ma 47), .ref (ma 48), .int 0, .int 0, .int 0, .int 0, .int 0, .int 0, .int 0, .int 0, .int 0, .int 0, .ref (ma 59), .ref (ma 60), .int 0, .int 0, .int 0, .int 0, .int 0, .int 0, .ref (ma 67), .ref (ma 68), .ref (ma 69), .int 0, .int (-1), .int 0, .ref (ma 73)])), ((ma 17), .inl (cy 1, 2, .inl (fun _ => 0)))] s.heap := hP
  have hl := lv_entry ([.ref hm, .int p0]) (n := 2) (Nat.le_of_ble_eq_true rfl)
  rw [lg_entry_eq]
  generalize (lg_sl ([.ref hm, .int p0]) ++ List.replicate (2 - (lg_sl ([.ref hm, .int p0])).length) Slot.unset).toArray = ls at hl ⊢
  have hl : lv_has ls 2 [(0, .ref hm), (1, .int p0)] := hl
  rcases pk_ix p0 (n := 5) (by decide) with h5 | h5 | ⟨j5, hj5, rfl⟩
  · refine lv_aload_n hx hb dX12_told_0 rfl (lv_at hl 0 rfl) ?_
    refine lv_iconst (v := 0) hx hb dX12_told_1 (by decide) ?_
    refine va_put (D := D) (ci := 12) (v := .int 0) (ty := .int) (C := RX12) (T := TX12) (N := 74) hx hb hT i_TX12 tyX12 tyX12_ok nmX12 hown hK hP hD hS 0 rfl rfl 0 (by decide) (hT _ t_1715) (fun _ h9 => h9) rfl (by decide +kernel) rfl rfl (Nat.le_of_ble_eq_true rfl) dX12_told_2 (fun H locs hP hD hS => ?_)
    have hP : va_P D vwCl [(hm, .inr (12, [.int 0, .ref (ma 1), .int 0, .int (-1), .ref (ma 4), .int 0, .int 0, .int 0, .long 0, .int 0, .int 0, .int 0, .int 0, .long 0, .int 0, .int 0, .int 0, .ref (ma 17), .ref (ma 18), .ref (ma 19), .ref (ma 20), .ref (ma 21), .ref (ma 22), .ref (ma 23), .ref (ma 24), .ref (ma 25), .ref (ma 26), .ref (ma 27), .ref (ma 28), .ref (ma 29), .ref (ma 30), .ref (ma 31), .ref (ma 32), .ref (ma 33), .ref (ma 34), .ref (ma 35), .ref (ma 36), .ref (ma 37), .ref (ma 38), .ref (ma 39), .ref (ma 40), .ref (ma 41), .ref (ma 42), .ref (ma 43), .ref (ma 44), .ref (ma 45), .ref (ma 46), .ref (ma 47), .ref (ma 48), .int 0, .int 0, .int 0, .int 0, .int 0, .int 0, .int 0, .int 0, .int 0, .int 0, .ref (ma 59), .ref (ma 60), .int 0, .int 0, .int 0, .int 0, .int 0, .int 0, .ref (ma 67), .ref (ma 68), .ref (ma 69), .int 0, .int (-1), .int 0, .ref (ma 73)])), ((ma 17), .inl (cy 1, 2, .inl (fun _ => 0)))] H := hP
    have hD : va_D A [(hm, .inr (12, [.int 0, .ref (ma 1), .int 0, .int (-1), .ref (ma 4), .int 0, .int 0, .int 0, .long 0, .int 0, .int 0, .int 0, .int 0, .long 0, .int 0, .int 0, .int 0, .ref (ma 17), .ref (ma 18), .ref (ma 19), .ref (ma 20), .ref (ma 21), .ref (ma 22), .ref (ma 23), .ref (ma 24), .ref (ma 25), .ref (ma 26), .ref (ma 27), .ref (ma 28), .ref (ma 29), .ref (ma 30), .ref (ma 31), .ref (ma 32), .ref (ma 33), .ref (ma 34), .ref (ma 35), .ref (ma 36), .ref (ma 37), .ref (ma 38), .ref (ma 39), .ref (ma 40), .ref (ma 41), .ref (ma 42), .ref (ma 43), .ref (ma 44), .ref (ma 45), .ref (ma 46), .ref (ma 47), .ref (ma 48), .int 0, .int 0, .int 0, .int 0, .int 0, .int 0, .int 0, .int 0, .int 0, .int 0, .ref (ma 59), .ref (ma 60), .int 0, .int 0, .int 0, .int 0, .int 0, .int 0, .ref (ma 67), .ref (ma 68), .ref (ma 69), .int 0, .int (-1), .int 0, .ref (ma 73)])), ((ma 17), .inl (cy 1, 2, .inl (fun _ => 0)))] := hD
    refine lv_iload_n hx hb dX12_told_5 rfl (lv_at hl 1 rfl) ?_
    refine lv_if_ne (tgt := 21) hx hb dX12_told_6 (by decide) (fun _ => ?_) (fun c9 => absurd c9 (tld_ne (Or.inl h5) 0 (by decide)))
    refine lv_iload_n hx hb dX12_told_21 rfl (lv_at hl 1 rfl) ?_
    refine lv_iconst (v := 1) hx hb dX12_told_22 (by decide) ?_
    refine lv_icmp_ne (tgt := 33) hx hb dX12_told_23 (by decide) (fun _ => ?_) (fun c9 => absurd c9 (tld_ne (Or.inl h5) 1 (by decide)))
    refine lv_iload_n hx hb dX12_told_33 rfl (lv_at hl 1 rfl) ?_
    refine lv_iconst (v := 2) hx hb dX12_told_34 (by decide) ?_
    refine lv_icmp_ne (tgt := 45) hx hb dX12_told_35 (by decide) (fun _ => ?_) (fun c9 => absurd c9 (tld_ne (Or.inl h5) 2 (by decide)))
    refine lv_iload_n hx hb dX12_told_45 rfl (lv_at hl 1 rfl) ?_
    refine lv_iconst (v := 3) hx hb dX12_told_46 (by decide) ?_
    refine lv_icmp_ne (tgt := 57) hx hb dX12_told_47 (by decide) (fun _ => ?_) (fun c9 => absurd c9 (tld_ne (Or.inl h5) 3 (by decide)))
    refine lv_iload_n hx hb dX12_told_57 rfl (lv_at hl 1 rfl) ?_
    refine lv_iconst (v := 4) hx hb dX12_told_58 (by decide) ?_
    refine lv_icmp_ne (tgt := 69) hx hb dX12_told_59 (by decide) (fun _ => ?_) (fun c9 => absurd c9 (tld_ne (Or.inl h5) 4 (by decide)))
    refine lv_bipush (v := (-2)) hx hb dX12_told_69 (by decide) ?_
    have hP9 := hP.sub (ws' := []) [] rfl
    have hD9 := hD.sub (ws' := []) [] (by decide) rfl
    refine W.widen (k := 0) (n := 0) (Nat.le_of_ble_eq_true rfl) (Nat.le_of_ble_eq_true rfl) ?_
    exact W.iret (v := (-2)) hx hb hr (fun t ht hW => ⟨⟨(-2), (), rfl, (tld_n h5).symm, by rw [ht]; exact hP9, hD9⟩, hS.F ht⟩) hS.2.2 dX12_told_71
  · refine lv_aload_n hx hb dX12_told_0 rfl (lv_at hl 0 rfl) ?_
    refine lv_iconst (v := 0) hx hb dX12_told_1 (by decide) ?_
    refine va_put (D := D) (ci := 12) (v := .int 0) (ty := .int) (C := RX12) (T := TX12) (N := 74) hx hb hT i_TX12 tyX12 tyX12_ok nmX12 hown hK hP hD hS 0 rfl rfl 0 (by decide) (hT _ t_1715) (fun _ h9 => h9) rfl (by decide +kernel) rfl rfl (Nat.le_of_ble_eq_true rfl) dX12_told_2 (fun H locs hP hD hS => ?_)
    have hP : va_P D vwCl [(hm, .inr (12, [.int 0, .ref (ma 1), .int 0, .int (-1), .ref (ma 4), .int 0, .int 0, .int 0, .long 0, .int 0, .int 0, .int 0, .int 0, .long 0, .int 0, .int 0, .int 0, .ref (ma 17), .ref (ma 18), .ref (ma 19), .ref (ma 20), .ref (ma 21), .ref (ma 22), .ref (ma 23), .ref (ma 24), .ref (ma 25), .ref (ma 26), .ref (ma 27), .ref (ma 28), .ref (ma 29), .ref (ma 30), .ref (ma 31), .ref (ma 32), .ref (ma 33), .ref (ma 34), .ref (ma 35), .ref (ma 36), .ref (ma 37), .ref (ma 38), .ref (ma 39), .ref (ma 40), .ref (ma 41), .ref (ma 42), .ref (ma 43), .ref (ma 44), .ref (ma 45), .ref (ma 46), .ref (ma 47), .ref (ma 48), .int 0, .int 0, .int 0, .int 0, .int 0, .int 0, .int 0, .int 0, .int 0, .int 0, .ref (ma 59), .ref (ma 60), .int 0, .int 0, .int 0, .int 0, .int 0, .int 0, .ref (ma 67), .ref (ma 68), .ref (ma 69), .int 0, .int (-1), .int 0, .ref (ma 73)])), ((ma 17), .inl (cy 1, 2, .inl (fun _ => 0)))] H := hP
    have hD : va_D A [(hm, .inr (12, [.int 0, .ref (ma 1), .int 0, .int (-1), .ref (ma 4), .int 0, .int 0, .int 0, .long 0, .int 0, .int 0, .int 0, .int 0, .long 0, .int 0, .int 0, .int 0, .ref (ma 17), .ref (ma 18), .ref (ma 19), .ref (ma 20), .ref (ma 21), .ref (ma 22), .ref (ma 23), .ref (ma 24), .ref (ma 25), .ref (ma 26), .ref (ma 27), .ref (ma 28), .ref (ma 29), .ref (ma 30), .ref (ma 31), .ref (ma 32), .ref (ma 33), .ref (ma 34), .ref (ma 35), .ref (ma 36), .ref (ma 37), .ref (ma 38), .ref (ma 39), .ref (ma 40), .ref (ma 41), .ref (ma 42), .ref (ma 43), .ref (ma 44), .ref (ma 45), .ref (ma 46), .ref (ma 47), .ref (ma 48), .int 0, .int 0, .int 0, .int 0, .int 0, .int 0, .int 0, .int 0, .int 0, .int 0, .ref (ma 59), .ref (ma 60), .int 0, .int 0, .int 0, .int 0, .int 0, .int 0, .ref (ma 67), .ref (ma 68), .ref (ma 69), .int 0, .int (-1), .int 0, .ref (ma 73)])), ((ma 17), .inl (cy 1, 2, .inl (fun _ => 0)))] := hD
    refine lv_iload_n hx hb dX12_told_5 rfl (lv_at hl 1 rfl) ?_
    refine lv_if_ne (tgt := 21) hx hb dX12_told_6 (by decide) (fun _ => ?_) (fun c9 => absurd c9 (tld_ne (Or.inr h5) 0 (by decide)))
    refine lv_iload_n hx hb dX12_told_21 rfl (lv_at hl 1 rfl) ?_
    refine lv_iconst (v := 1) hx hb dX12_told_22 (by decide) ?_
    refine lv_icmp_ne (tgt := 33) hx hb dX12_told_23 (by decide) (fun _ => ?_) (fun c9 => absurd c9 (tld_ne (Or.inr h5) 1 (by decide)))
    refine lv_iload_n hx hb dX12_told_33 rfl (lv_at hl 1 rfl) ?_
    refine lv_iconst (v := 2) hx hb dX12_told_34 (by decide) ?_
    refine lv_icmp_ne (tgt := 45) hx hb dX12_told_35 (by decide) (fun _ => ?_) (fun c9 => absurd c9 (tld_ne (Or.inr h5) 2 (by decide)))
    refine lv_iload_n hx hb dX12_told_45 rfl (lv_at hl 1 rfl) ?_
    refine lv_iconst (v := 3) hx hb dX12_told_46 (by decide) ?_
    refine lv_icmp_ne (tgt := 57) hx hb dX12_told_47 (by decide) (fun _ => ?_) (fun c9 => absurd c9 (tld_ne (Or.inr h5) 3 (by decide)))
    refine lv_iload_n hx hb dX12_told_57 rfl (lv_at hl 1 rfl) ?_
    refine lv_iconst (v := 4) hx hb dX12_told_58 (by decide) ?_
    refine lv_icmp_ne (tgt := 69) hx hb dX12_told_59 (by decide) (fun _ => ?_) (fun c9 => absurd c9 (tld_ne (Or.inr h5) 4 (by decide)))
    refine lv_bipush (v := (-2)) hx hb dX12_told_69 (by decide) ?_
    have hP9 := hP.sub (ws' := []) [] rfl
    have hD9 := hD.sub (ws' := []) [] (by decide) rfl
    refine W.widen (k := 0) (n := 0) (Nat.le_of_ble_eq_true rfl) (Nat.le_of_ble_eq_true rfl) ?_
    exact W.iret (v := (-2)) hx hb hr (fun t ht hW => ⟨⟨(-2), (), rfl, (tld_b h5).symm, by rw [ht]; exact hP9, hD9⟩, hS.F ht⟩) hS.2.2 dX12_told_71
  · rcases (show j5 = 0 ∨ j5 = 1 ∨ j5 = 2 ∨ j5 = 3 ∨ j5 = 4 by omega) with rfl | rfl | rfl | rfl | rfl
    · refine lv_aload_n hx hb dX12_told_0 rfl (lv_at hl 0 rfl) ?_
      refine lv_iconst (v := 0) hx hb dX12_told_1 (by decide) ?_
      refine va_put (D := D) (ci := 12) (v := .int 0) (ty := .int) (C := RX12) (T := TX12) (N := 74) hx hb hT i_TX12 tyX12 tyX12_ok nmX12 hown hK hP hD hS 0 rfl rfl 0 (by decide) (hT _ t_1715) (fun _ h9 => h9) rfl (by decide +kernel) rfl rfl (Nat.le_of_ble_eq_true rfl) dX12_told_2 (fun H locs hP hD hS => ?_)
      have hP : va_P D vwCl [(hm, .inr (12, [.int 0, .ref (ma 1), .int 0, .int (-1), .ref (ma 4), .int 0, .int 0, .int 0, .long 0, .int 0, .int 0, .int 0, .int 0, .long 0, .int 0, .int 0, .int 0, .ref (ma 17), .ref (ma 18), .ref (ma 19), .ref (ma 20), .ref (ma 21), .ref (ma 22), .ref (ma 23), .ref (ma 24), .ref (ma 25), .ref (ma 26), .ref (ma 27), .ref (ma 28), .ref (ma 29), .ref (ma 30), .ref (ma 31), .ref (ma 32), .ref (ma 33), .ref (ma 34), .ref (ma 35), .ref (ma 36), .ref (ma 37), .ref (ma 38), .ref (ma 39), .ref (ma 40), .ref (ma 41), .ref (ma 42), .ref (ma 43), .ref (ma 44), .ref (ma 45), .ref (ma 46), .ref (ma 47), .ref (ma 48), .int 0, .int 0, .int 0, .int 0, .int 0, .int 0, .int 0, .int 0, .int 0, .int 0, .ref (ma 59), .ref (ma 60), .int 0, .int 0, .int 0, .int 0, .int 0, .int 0, .ref (ma 67), .ref (ma 68), .ref (ma 69), .int 0, .int (-1), .int 0, .ref (ma 73)])), ((ma 17), .inl (cy 1, 2, .inl (fun _ => 0)))] H := hP
      have hD : va_D A [(hm, .inr (12, [.int 0, .ref (ma 1), .int 0, .int (-1), .ref (ma 4), .int 0, .int 0, .int 0, .long 0, .int 0, .int 0, .int 0, .int 0, .long 0, .int 0, .int 0, .int 0, .ref (ma 17), .ref (ma 18), .ref (ma 19), .ref (ma 20), .ref (ma 21), .ref (ma 22), .ref (ma 23), .ref (ma 24), .ref (ma 25), .ref (ma 26), .ref (ma 27), .ref (ma 28), .ref (ma 29), .ref (ma 30), .ref (ma 31), .ref (ma 32), .ref (ma 33), .ref (ma 34), .ref (ma 35), .ref (ma 36), .ref (ma 37), .ref (ma 38), .ref (ma 39), .ref (ma 40), .ref (ma 41), .ref (ma 42), .ref (ma 43), .ref (ma 44), .ref (ma 45), .ref (ma 46), .ref (ma 47), .ref (ma 48), .int 0, .int 0, .int 0, .int 0, .int 0, .int 0, .int 0, .int 0, .int 0, .int 0, .ref (ma 59), .ref (ma 60), .int 0, .int 0, .int 0, .int 0, .int 0, .int 0, .ref (ma 67), .ref (ma 68), .ref (ma 69), .int 0, .int (-1), .int 0, .ref (ma 73)])), ((ma 17), .inl (cy 1, 2, .inl (fun _ => 0)))] := hD
      refine lv_iload_n hx hb dX12_told_5 rfl (lv_at hl 1 rfl) ?_
      refine lv_if_ne (tgt := 21) hx hb dX12_told_6 (by decide) (fun c9 => absurd (by decide) c9) (fun _ => ?_)
      refine lv_aload_n hx hb dX12_told_9 rfl (lv_at hl 0 rfl) ?_
      refine va_get (D := D) (ci := 12) (v := .ref (ma 17)) (C := RX12) (T := TX12) (N := 74) hx hb hT i_TX12 hown hK hP 0 rfl rfl 17 (by decide) (hT _ t_1732) (fun _ h9 => h9) rfl dX12_told_10 ?_
      refine lv_aload_n hx hb dX12_told_13 rfl (lv_at hl 0 rfl) ?_
      refine va_get (D := D) (ci := 12) (v := .int 0) (C := RX12) (T := TX12) (N := 74) hx hb hT i_TX12 hown hK hP 0 rfl rfl 15 (by decide) (hT _ t_1730) (fun _ h9 => h9) rfl dX12_told_14 ?_
      refine va_iald hx hb hK hP 1 1 rfl rfl (vp_in_iff.mpr (by decide)) dX12_told_17 ?_
      refine lv_topi (fun z1 e2 => ?_)
      obtain rfl : z1 = 0 := e2.trans (by first | decide | rfl)
      refine lv_goto (tgt := 71) hx hb dX12_told_18 (by decide) ?_
      have hP9 := hP.sub (ws' := []) [] rfl
      have hD9 := hD.sub (ws' := []) [] (by decide) rfl
      refine W.widen (k := 0) (n := 0) (Nat.le_of_ble_eq_true rfl) (Nat.le_of_ble_eq_true rfl) ?_
      exact W.iret (v := 0) hx hb hr (fun t ht hW => ⟨⟨0, (), rfl, (by decide), by rw [ht]; exact hP9, hD9⟩, hS.F ht⟩) hS.2.2 dX12_told_71
    · refine lv_aload_n hx hb dX12_told_0 rfl (lv_at hl 0 rfl) ?_
      refine lv_iconst (v := 0) hx hb dX12_told_1 (by decide) ?_
      refine va_put (D := D) (ci := 12) (v := .int 0) (ty := .int) (C := RX12) (T := TX12) (N := 74) hx hb hT i_TX12 tyX12 tyX12_ok nmX12 hown hK hP hD hS 0 rfl rfl 0 (by decide) (hT _ t_1715) (fun _ h9 => h9) rfl (by decide +kernel) rfl rfl (Nat.le_of_ble_eq_true rfl) dX12_told_2 (fun H locs hP hD hS => ?_)
      have hP : va_P D vwCl [(hm, .inr (12, [.int 0, .ref (ma 1), .int 0, .int (-1), .ref (ma 4), .int 0, .int 0, .int 0, .long 0, .int 0, .int 0, .int 0, .int 0, .long 0, .int 0, .int 0, .int 0, .ref (ma 17), .ref (ma 18), .ref (ma 19), .ref (ma 20), .ref (ma 21), .ref (ma 22), .ref (ma 23), .ref (ma 24), .ref (ma 25), .ref (ma 26), .ref (ma 27), .ref (ma 28), .ref (ma 29), .ref (ma 30), .ref (ma 31), .ref (ma 32), .ref (ma 33), .ref (ma 34), .ref (ma 35), .ref (ma 36), .ref (ma 37), .ref (ma 38), .ref (ma 39), .ref (ma 40), .ref (ma 41), .ref (ma 42), .ref (ma 43), .ref (ma 44), .ref (ma 45), .ref (ma 46), .ref (ma 47), .ref (ma 48), .int 0, .int 0, .int 0, .int 0, .int 0, .int 0, .int 0, .int 0, .int 0, .int 0, .ref (ma 59), .ref (ma 60), .int 0, .int 0, .int 0, .int 0, .int 0, .int 0, .ref (ma 67), .ref (ma 68), .ref (ma 69), .int 0, .int (-1), .int 0, .ref (ma 73)])), ((ma 17), .inl (cy 1, 2, .inl (fun _ => 0)))] H := hP
      have hD : va_D A [(hm, .inr (12, [.int 0, .ref (ma 1), .int 0, .int (-1), .ref (ma 4), .int 0, .int 0, .int 0, .long 0, .int 0, .int 0, .int 0, .int 0, .long 0, .int 0, .int 0, .int 0, .ref (ma 17), .ref (ma 18), .ref (ma 19), .ref (ma 20), .ref (ma 21), .ref (ma 22), .ref (ma 23), .ref (ma 24), .ref (ma 25), .ref (ma 26), .ref (ma 27), .ref (ma 28), .ref (ma 29), .ref (ma 30), .ref (ma 31), .ref (ma 32), .ref (ma 33), .ref (ma 34), .ref (ma 35), .ref (ma 36), .ref (ma 37), .ref (ma 38), .ref (ma 39), .ref (ma 40), .ref (ma 41), .ref (ma 42), .ref (ma 43), .ref (ma 44), .ref (ma 45), .ref (ma 46), .ref (ma 47), .ref (ma 48), .int 0, .int 0, .int 0, .int 0, .int 0, .int 0, .int 0, .int 0, .int 0, .int 0, .ref (ma 59), .ref (ma 60), .int 0, .int 0, .int 0, .int 0, .int 0, .int 0, .ref (ma 67), .ref (ma 68), .ref (ma 69), .int 0, .int (-1), .int 0, .ref (ma 73)])), ((ma 17), .inl (cy 1, 2, .inl (fun _ => 0)))] := hD
      refine lv_iload_n hx hb dX12_told_5 rfl (lv_at hl 1 rfl) ?_
      refine lv_if_ne (tgt := 21) hx hb dX12_told_6 (by decide) (fun _ => ?_) (fun c9 => absurd c9 (by decide))
      refine lv_iload_n hx hb dX12_told_21 rfl (lv_at hl 1 rfl) ?_
      refine lv_iconst (v := 1) hx hb dX12_told_22 (by decide) ?_
      refine lv_icmp_ne (tgt := 33) hx hb dX12_told_23 (by decide) (fun c9 => absurd (by decide) c9) (fun _ => ?_)
      refine lv_aload_n hx hb dX12_told_26 rfl (lv_at hl 0 rfl) ?_
      refine va_get (D := D) (ci := 12) (v := .int 0) (C := RX12) (T := TX12) (N := 74) hx hb hT i_TX12 hown hK hP 0 rfl rfl 61 (by decide) (hT _ t_1776) (fun _ h9 => h9) rfl dX12_told_27 ?_
      refine lv_goto (tgt := 71) hx hb dX12_told_30 (by decide) ?_
      have hP9 := hP.sub (ws' := []) [] rfl
      have hD9 := hD.sub (ws' := []) [] (by decide) rfl
      refine W.widen (k := 0) (n := 0) (Nat.le_of_ble_eq_true rfl) (Nat.le_of_ble_eq_true rfl) ?_
      exact W.iret (v := 0) hx hb hr (fun t ht hW => ⟨⟨0, (), rfl, (by decide), by rw [ht]; exact hP9, hD9⟩, hS.F ht⟩) hS.2.2 dX12_told_71
    · refine lv_aload_n hx hb dX12_told_0 rfl (lv_at hl 0 rfl) ?_
      refine lv_iconst (v := 0) hx hb dX12_told_1 (by decide) ?_
      refine va_put (D := D) (ci := 12) (v := .int 0) (ty := .int) (C := RX12) (T := TX12) (N := 74) hx hb hT i_TX12 tyX12 tyX12_ok nmX12 hown hK hP hD hS 0 rfl rfl 0 (by decide) (hT _ t_1715) (fun _ h9 => h9) rfl (by decide +kernel) rfl rfl (Nat.le_of_ble_eq_true rfl) dX12_told_2 (fun H locs hP hD hS => ?_)
      have hP : va_P D vwCl [(hm, .inr (12, [.int 0, .ref (ma 1), .int 0, .int (-1), .ref (ma 4), .int 0, .int 0, .int 0, .long 0, .int 0, .int 0, .int 0, .int 0, .long 0, .int 0, .int 0, .int 0, .ref (ma 17), .ref (ma 18), .ref (ma 19), .ref (ma 20), .ref (ma 21), .ref (ma 22), .ref (ma 23), .ref (ma 24), .ref (ma 25), .ref (ma 26), .ref (ma 27), .ref (ma 28), .ref (ma 29), .ref (ma 30), .ref (ma 31), .ref (ma 32), .ref (ma 33), .ref (ma 34), .ref (ma 35), .ref (ma 36), .ref (ma 37), .ref (ma 38), .ref (ma 39), .ref (ma 40), .ref (ma 41), .ref (ma 42), .ref (ma 43), .ref (ma 44), .ref (ma 45), .ref (ma 46), .ref (ma 47), .ref (ma 48), .int 0, .int 0, .int 0, .int 0, .int 0, .int 0, .int 0, .int 0, .int 0, .int 0, .ref (ma 59), .ref (ma 60), .int 0, .int 0, .int 0, .int 0, .int 0, .int 0, .ref (ma 67), .ref (ma 68), .ref (ma 69), .int 0, .int (-1), .int 0, .ref (ma 73)])), ((ma 17), .inl (cy 1, 2, .inl (fun _ => 0)))] H := hP
      have hD : va_D A [(hm, .inr (12, [.int 0, .ref (ma 1), .int 0, .int (-1), .ref (ma 4), .int 0, .int 0, .int 0, .long 0, .int 0, .int 0, .int 0, .int 0, .long 0, .int 0, .int 0, .int 0, .ref (ma 17), .ref (ma 18), .ref (ma 19), .ref (ma 20), .ref (ma 21), .ref (ma 22), .ref (ma 23), .ref (ma 24), .ref (ma 25), .ref (ma 26), .ref (ma 27), .ref (ma 28), .ref (ma 29), .ref (ma 30), .ref (ma 31), .ref (ma 32), .ref (ma 33), .ref (ma 34), .ref (ma 35), .ref (ma 36), .ref (ma 37), .ref (ma 38), .ref (ma 39), .ref (ma 40), .ref (ma 41), .ref (ma 42), .ref (ma 43), .ref (ma 44), .ref (ma 45), .ref (ma 46), .ref (ma 47), .ref (ma 48), .int 0, .int 0, .int 0, .int 0, .int 0, .int 0, .int 0, .int 0, .int 0, .int 0, .ref (ma 59), .ref (ma 60), .int 0, .int 0, .int 0, .int 0, .int 0, .int 0, .ref (ma 67), .ref (ma 68), .ref (ma 69), .int 0, .int (-1), .int 0, .ref (ma 73)])), ((ma 17), .inl (cy 1, 2, .inl (fun _ => 0)))] := hD
      refine lv_iload_n hx hb dX12_told_5 rfl (lv_at hl 1 rfl) ?_
      refine lv_if_ne (tgt := 21) hx hb dX12_told_6 (by decide) (fun _ => ?_) (fun c9 => absurd c9 (by decide))
      refine lv_iload_n hx hb dX12_told_21 rfl (lv_at hl 1 rfl) ?_
      refine lv_iconst (v := 1) hx hb dX12_told_22 (by decide) ?_
      refine lv_icmp_ne (tgt := 33) hx hb dX12_told_23 (by decide) (fun _ => ?_) (fun c9 => absurd c9 (by decide))
      refine lv_iload_n hx hb dX12_told_33 rfl (lv_at hl 1 rfl) ?_
      refine lv_iconst (v := 2) hx hb dX12_told_34 (by decide) ?_
      refine lv_icmp_ne (tgt := 45) hx hb dX12_told_35 (by decide) (fun c9 => absurd (by decide) c9) (fun _ => ?_)
      refine lv_aload_n hx hb dX12_told_38 rfl (lv_at hl 0 rfl) ?_
      refine va_get (D := D) (ci := 12) (v := .int 0) (C := RX12) (T := TX12) (N := 74) hx hb hT i_TX12 hown hK hP 0 rfl rfl 2 (by decide) (hT _ t_1717) (fun _ h9 => h9) rfl dX12_told_39 ?_
      refine lv_goto (tgt := 71) hx hb dX12_told_42 (by decide) ?_
      have hP9 := hP.sub (ws' := []) [] rfl
      have hD9 := hD.sub (ws' := []) [] (by decide) rfl
      refine W.widen (k := 0) (n := 0) (Nat.le_of_ble_eq_true rfl) (Nat.le_of_ble_eq_true rfl) ?_
      exact W.iret (v := 0) hx hb hr (fun t ht hW => ⟨⟨0, (), rfl, (by decide), by rw [ht]; exact hP9, hD9⟩, hS.F ht⟩) hS.2.2 dX12_told_71
    · refine lv_aload_n hx hb dX12_told_0 rfl (lv_at hl 0 rfl) ?_
      refine lv_iconst (v := 0) hx hb dX12_told_1 (by decide) ?_
      refine va_put (D := D) (ci := 12) (v := .int 0) (ty := .int) (C := RX12) (T := TX12) (N := 74) hx hb hT i_TX12 tyX12 tyX12_ok nmX12 hown hK hP hD hS 0 rfl rfl 0 (by decide) (hT _ t_1715) (fun _ h9 => h9) rfl (by decide +kernel) rfl rfl (Nat.le_of_ble_eq_true rfl) dX12_told_2 (fun H locs hP hD hS => ?_)
      have hP : va_P D vwCl [(hm, .inr (12, [.int 0, .ref (ma 1), .int 0, .int (-1), .ref (ma 4), .int 0, .int 0, .int 0, .long 0, .int 0, .int 0, .int 0, .int 0, .long 0, .int 0, .int 0, .int 0, .ref (ma 17), .ref (ma 18), .ref (ma 19), .ref (ma 20), .ref (ma 21), .ref (ma 22), .ref (ma 23), .ref (ma 24), .ref (ma 25), .ref (ma 26), .ref (ma 27), .ref (ma 28), .ref (ma 29), .ref (ma 30), .ref (ma 31), .ref (ma 32), .ref (ma 33), .ref (ma 34), .ref (ma 35), .ref (ma 36), .ref (ma 37), .ref (ma 38), .ref (ma 39), .ref (ma 40), .ref (ma 41), .ref (ma 42), .ref (ma 43), .ref (ma 44), .ref (ma 45), .ref (ma 46), .ref (ma 47), .ref (ma 48), .int 0, .int 0, .int 0, .int 0, .int 0, .int 0, .int 0, .int 0, .int 0, .int 0, .ref (ma 59), .ref (ma 60), .int 0, .int 0, .int 0, .int 0, .int 0, .int 0, .ref (ma 67), .ref (ma 68), .ref (ma 69), .int 0, .int (-1), .int 0, .ref (ma 73)])), ((ma 17), .inl (cy 1, 2, .inl (fun _ => 0)))] H := hP
      have hD : va_D A [(hm, .inr (12, [.int 0, .ref (ma 1), .int 0, .int (-1), .ref (ma 4), .int 0, .int 0, .int 0, .long 0, .int 0, .int 0, .int 0, .int 0, .long 0, .int 0, .int 0, .int 0, .ref (ma 17), .ref (ma 18), .ref (ma 19), .ref (ma 20), .ref (ma 21), .ref (ma 22), .ref (ma 23), .ref (ma 24), .ref (ma 25), .ref (ma 26), .ref (ma 27), .ref (ma 28), .ref (ma 29), .ref (ma 30), .ref (ma 31), .ref (ma 32), .ref (ma 33), .ref (ma 34), .ref (ma 35), .ref (ma 36), .ref (ma 37), .ref (ma 38), .ref (ma 39), .ref (ma 40), .ref (ma 41), .ref (ma 42), .ref (ma 43), .ref (ma 44), .ref (ma 45), .ref (ma 46), .ref (ma 47), .ref (ma 48), .int 0, .int 0, .int 0, .int 0, .int 0, .int 0, .int 0, .int 0, .int 0, .int 0, .ref (ma 59), .ref (ma 60), .int 0, .int 0, .int 0, .int 0, .int 0, .int 0, .ref (ma 67), .ref (ma 68), .ref (ma 69), .int 0, .int (-1), .int 0, .ref (ma 73)])), ((ma 17), .inl (cy 1, 2, .inl (fun _ => 0)))] := hD
      refine lv_iload_n hx hb dX12_told_5 rfl (lv_at hl 1 rfl) ?_
      refine lv_if_ne (tgt := 21) hx hb dX12_told_6 (by decide) (fun _ => ?_) (fun c9 => absurd c9 (by decide))
      refine lv_iload_n hx hb dX12_told_21 rfl (lv_at hl 1 rfl) ?_
      refine lv_iconst (v := 1) hx hb dX12_told_22 (by decide) ?_
      refine lv_icmp_ne (tgt := 33) hx hb dX12_told_23 (by decide) (fun _ => ?_) (fun c9 => absurd c9 (by decide))
      refine lv_iload_n hx hb dX12_told_33 rfl (lv_at hl 1 rfl) ?_
      refine lv_iconst (v := 2) hx hb dX12_told_34 (by decide) ?_
      refine lv_icmp_ne (tgt := 45) hx hb dX12_told_35 (by decide) (fun _ => ?_) (fun c9 => absurd c9 (by decide))
      refine lv_iload_n hx hb dX12_told_45 rfl (lv_at hl 1 rfl) ?_
      refine lv_iconst (v := 3) hx hb dX12_told_46 (by decide) ?_
      refine lv_icmp_ne (tgt := 57) hx hb dX12_told_47 (by decide) (fun c9 => absurd (by decide) c9) (fun _ => ?_)
      refine lv_aload_n hx hb dX12_told_50 rfl (lv_at hl 0 rfl) ?_
      refine va_get (D := D) (ci := 12) (v := .int 0) (C := RX12) (T := TX12) (N := 74) hx hb hT i_TX12 hown hK hP 0 rfl rfl 62 (by decide) (hT _ t_1777) (fun _ h9 => h9) rfl dX12_told_51 ?_
      refine lv_goto (tgt := 71) hx hb dX12_told_54 (by decide) ?_
      have hP9 := hP.sub (ws' := []) [] rfl
      have hD9 := hD.sub (ws' := []) [] (by decide) rfl
      refine W.widen (k := 0) (n := 0) (Nat.le_of_ble_eq_true rfl) (Nat.le_of_ble_eq_true rfl) ?_
      exact W.iret (v := 0) hx hb hr (fun t ht hW => ⟨⟨0, (), rfl, (by decide), by rw [ht]; exact hP9, hD9⟩, hS.F ht⟩) hS.2.2 dX12_told_71
    · refine lv_aload_n hx hb dX12_told_0 rfl (lv_at hl 0 rfl) ?_
      refine lv_iconst (v := 0) hx hb dX12_told_1 (by decide) ?_
      refine va_put (D := D) (ci := 12) (v := .int 0) (ty := .int) (C := RX12) (T := TX12) (N := 74) hx hb hT i_TX12 tyX12 tyX12_ok nmX12 hown hK hP hD hS 0 rfl rfl 0 (by decide) (hT _ t_1715) (fun _ h9 => h9) rfl (by decide +kernel) rfl rfl (Nat.le_of_ble_eq_true rfl) dX12_told_2 (fun H locs hP hD hS => ?_)
      have hP : va_P D vwCl [(hm, .inr (12, [.int 0, .ref (ma 1), .int 0, .int (-1), .ref (ma 4), .int 0, .int 0, .int 0, .long 0, .int 0, .int 0, .int 0, .int 0, .long 0, .int 0, .int 0, .int 0, .ref (ma 17), .ref (ma 18), .ref (ma 19), .ref (ma 20), .ref (ma 21), .ref (ma 22), .ref (ma 23), .ref (ma 24), .ref (ma 25), .ref (ma 26), .ref (ma 27), .ref (ma 28), .ref (ma 29), .ref (ma 30), .ref (ma 31), .ref (ma 32), .ref (ma 33), .ref (ma 34), .ref (ma 35), .ref (ma 36), .ref (ma 37), .ref (ma 38), .ref (ma 39), .ref (ma 40), .ref (ma 41), .ref (ma 42), .ref (ma 43), .ref (ma 44), .ref (ma 45), .ref (ma 46), .ref (ma 47), .ref (ma 48), .int 0, .int 0, .int 0, .int 0, .int 0, .int 0, .int 0, .int 0, .int 0, .int 0, .ref (ma 59), .ref (ma 60), .int 0, .int 0, .int 0, .int 0, .int 0, .int 0, .ref (ma 67), .ref (ma 68), .ref (ma 69), .int 0, .int (-1), .int 0, .ref (ma 73)])), ((ma 17), .inl (cy 1, 2, .inl (fun _ => 0)))] H := hP
      have hD : va_D A [(hm, .inr (12, [.int 0, .ref (ma 1), .int 0, .int (-1), .ref (ma 4), .int 0, .int 0, .int 0, .long 0, .int 0, .int 0, .int 0, .int 0, .long 0, .int 0, .int 0, .int 0, .ref (ma 17), .ref (ma 18), .ref (ma 19), .ref (ma 20), .ref (ma 21), .ref (ma 22), .ref (ma 23), .ref (ma 24), .ref (ma 25), .ref (ma 26), .ref (ma 27), .ref (ma 28), .ref (ma 29), .ref (ma 30), .ref (ma 31), .ref (ma 32), .ref (ma 33), .ref (ma 34), .ref (ma 35), .ref (ma 36), .ref (ma 37), .ref (ma 38), .ref (ma 39), .ref (ma 40), .ref (ma 41), .ref (ma 42), .ref (ma 43), .ref (ma 44), .ref (ma 45), .ref (ma 46), .ref (ma 47), .ref (ma 48), .int 0, .int 0, .int 0, .int 0, .int 0, .int 0, .int 0, .int 0, .int 0, .int 0, .ref (ma 59), .ref (ma 60), .int 0, .int 0, .int 0, .int 0, .int 0, .int 0, .ref (ma 67), .ref (ma 68), .ref (ma 69), .int 0, .int (-1), .int 0, .ref (ma 73)])), ((ma 17), .inl (cy 1, 2, .inl (fun _ => 0)))] := hD
      refine lv_iload_n hx hb dX12_told_5 rfl (lv_at hl 1 rfl) ?_
      refine lv_if_ne (tgt := 21) hx hb dX12_told_6 (by decide) (fun _ => ?_) (fun c9 => absurd c9 (by decide))
      refine lv_iload_n hx hb dX12_told_21 rfl (lv_at hl 1 rfl) ?_
      refine lv_iconst (v := 1) hx hb dX12_told_22 (by decide) ?_
      refine lv_icmp_ne (tgt := 33) hx hb dX12_told_23 (by decide) (fun _ => ?_) (fun c9 => absurd c9 (by decide))
      refine lv_iload_n hx hb dX12_told_33 rfl (lv_at hl 1 rfl) ?_
      refine lv_iconst (v := 2) hx hb dX12_told_34 (by decide) ?_
      refine lv_icmp_ne (tgt := 45) hx hb dX12_told_35 (by decide) (fun _ => ?_) (fun c9 => absurd c9 (by decide))
      refine lv_iload_n hx hb dX12_told_45 rfl (lv_at hl 1 rfl) ?_
      refine lv_iconst (v := 3) hx hb dX12_told_46 (by decide) ?_
      refine lv_icmp_ne (tgt := 57) hx hb dX12_told_47 (by decide) (fun _ => ?_) (fun c9 => absurd c9 (by decide))
      refine lv_iload_n hx hb dX12_told_57 rfl (lv_at hl 1 rfl) ?_
      refine lv_iconst (v := 4) hx hb dX12_told_58 (by decide) ?_
      refine lv_icmp_ne (tgt := 69) hx hb dX12_told_59 (by decide) (fun c9 => absurd (by decide) c9) (fun _ => ?_)
      refine lv_aload_n hx hb dX12_told_62 rfl (lv_at hl 0 rfl) ?_
      refine va_get (D := D) (ci := 12) (v := .int 0) (C := RX12) (T := TX12) (N := 74) hx hb hT i_TX12 hown hK hP 0 rfl rfl 63 (by decide) (hT _ t_1778) (fun _ h9 => h9) rfl dX12_told_63 ?_
      refine lv_goto (tgt := 71) hx hb dX12_told_66 (by decide) ?_
      have hP9 := hP.sub (ws' := []) [] rfl
      have hD9 := hD.sub (ws' := []) [] (by decide) rfl
      refine W.widen (k := 0) (n := 0) (Nat.le_of_ble_eq_true rfl) (Nat.le_of_ble_eq_true rfl) ?_
      exact W.iret (v := 0) hx hb hr (fun t ht hW => ⟨⟨0, (), rfl, (by decide), by rw [ht]; exact hP9, hD9⟩, hS.F ht⟩) hS.2.2 dX12_told_71

set_option maxHeartbeats 4000000 in
set_option maxRecDepth 100000 in
theorem c_type (l : Launch) (D : va_G) (cy : Nat → ClassId) (sz : Nat) (hx0 : Nat) (xa : Nat → Nat) (p0 : Int32) (p1 : Int32) : Met l yX11_type (.code yX11_type cX11_type 4 (some .int) :: TB) ({ frames := 1, cells := 0, slots := 0, locals := 21 }) (va_Pc [.ref hx0, .int p0, .int p1] (fun U => U.heap.size = sz ∧ va_P D vwCl [(hx0, .inr (11, [.ref (xa 0), .int 0, .int (-1), .ref (xa 1), .ref (xa 2), .ref (xa 3), .ref (xa 4), .ref (xa 5)])), ((xa 1), .inr (7, [.ref (xa 6), .int 0, .ref (xa 7), .ref (xa 8), .int 0, .ref (xa 9), .int 0, .int 0, .int 0]))] U.heap ∧ va_K D vwCl (TY cy) U ∧ va_D (fun _ => True) [(hx0, .inr (11, [.ref (xa 0), .int 0, .int (-1), .ref (xa 1), .ref (xa 2), .ref (xa 3), .ref (xa 4), .ref (xa 5)])), ((xa 1), .inr (7, [.ref (xa 6), .int 0, .ref (xa 7), .ref (xa 8), .int 0, .ref (xa 9), .int 0, .int 0, .int 0]))])) (va_Qi (fun (r : Int32) (u : Unit) => r = -1) (fun (u : Unit) t => va_P D vwCl [] t.heap ∧ va_D (va_A [(hx0, .inr (11, [.ref (xa 0), .int 0, .int (-1), .ref (xa 1), .ref (xa 2), .ref (xa 3), .ref (xa 4), .ref (xa 5)])), ((xa 1), .inr (7, [.ref (xa 6), .int 0, .ref (xa 7), .ref (xa 8), .int 0, .ref (xa 9), .int 0, .int 0, .int 0]))] sz) []) (va_A [(hx0, .inr (11, [.ref (xa 0), .int 0, .int (-1), .ref (xa 1), .ref (xa 2), .ref (xa 3), .ref (xa 4), .ref (xa 5)])), ((xa 1), .inr (7, [.ref (xa 6), .int 0, .ref (xa 7), .ref (xa 8), .int 0, .ref (xa 9), .int 0, .int 0, .int 0]))] sz)) 0 0 (va_A [(hx0, .inr (11, [.ref (xa 0), .int 0, .int (-1), .ref (xa 1), .ref (xa 2), .ref (xa 3), .ref (xa 4), .ref (xa 5)])), ((xa 1), .inr (7, [.ref (xa 6), .int 0, .ref (xa 7), .ref (xa 8), .int 0, .ref (xa 9), .int 0, .int 0, .int 0]))] sz) := by
  refine Met.ofW (cc := cX11_type) (maxL := 4) (ret := (some .int)) (by decide) rfl ?_
  intro p e s m args below meth c s₁ B hml hv
  obtain ⟨rfl, hsz, hP, hK, hD0⟩ := hv
  have hx := B.exec
  have hb := B.bytes
  have hr := B.returns
  have hts := atoms_spec (ws := .code yX11_type cX11_type 4 (some .int) :: TB) B.pre
  have hT : ∀ w ∈ TB, w.before _ s = true := fun w h => hts w (List.mem_cons_of_mem _ h)
  have hown : s.vm.findClass "MakerStarts" = some m.cls := findClass_of_methodNamed B.named
  have hlocks := B.notSynchronized
  subst hsz
  have hD := hD0.self (sz := s.heap.size)
  generalize hAe : va_A [(hx0, .inr (11, [.ref (xa 0), .int 0, .int (-1), .ref (xa 1), .ref (xa 2), .ref (xa 3), .ref (xa 4), .ref (xa 5)])), ((xa 1), .inr (7, [.ref (xa 6), .int 0, .ref (xa 7), .ref (xa 8), .int 0, .ref (xa 9), .int 0, .int 0, .int 0]))] s.heap.size = A at hD  ⊢
  have hA : ∀ q : Nat, s.heap.size ≤ q → A q := fun q h => by rw [← hAe]; exact Or.inr h
  have hS : va_S A s.heap s.heap [] := va_S.rf
  have hP : va_P D vwCl [(hx0, .inr (11, [.ref (xa 0), .int 0, .int (-1), .ref (xa 1), .ref (xa 2), .ref (xa 3), .ref (xa 4), .ref (xa 5)])), ((xa 1), .inr (7, [.ref (xa 6), .int 0, .ref (xa 7), .ref (xa 8), .int 0, .ref (xa 9), .int 0, .int 0, .int 0]))] s.heap := hP
  have hl := lv_entry ([.ref hx0, .int p0, .int p1]) (n := 4) (Nat.le_of_ble_eq_true rfl)
  rw [lg_entry_eq]
  generalize (lg_sl ([.ref hx0, .int p0, .int p1]) ++ List.replicate (4 - (lg_sl ([.ref hx0, .int p0, .int p1])).length) Slot.unset).toArray = ls at hl ⊢
  have hl : lv_has ls 4 [(0, .ref hx0), (1, .int p0), (2, .int p1)] := hl
  refine lv_aload_n hx hb dX11_type_0 rfl (lv_at hl 0 rfl) ?_
  refine va_get (D := D) (ci := 11) (v := .ref (xa 1)) (C := RX11) (T := TX11) (N := 8) hx hb hT i_TX11 hown hK hP 0 rfl rfl 3 (by decide) (hT _ t_536) (fun _ h9 => h9) rfl dX11_type_1 ?_
  refine lv_iload_n hx hb dX11_type_4 rfl (lv_at hl 1 rfl) ?_
  have hPc := hP.sub (ws' := [((xa 1), .inr (7, [.ref (xa 6), .int 0, .ref (xa 7), .ref (xa 8), .int 0, .ref (xa 9), .int 0, .int 0, .int 0]))]) [1] rfl
  have hDc := hD.sub (ws' := [((xa 1), .inr (7, [.ref (xa 6), .int 0, .ref (xa 7), .ref (xa 8), .int 0, .ref (xa 9), .int 0, .int 0, .int 0]))]) [1] (by decide) rfl
  have hFc := va_free (wc := [((xa 1), .inr (7, [.ref (xa 6), .int 0, .ref (xa 7), .ref (xa 8), .int 0, .ref (xa 9), .int 0, .int 0, .int 0]))]) hD hS hA [1] rfl
  refine va_callq (va_runV (As := [.int p0]) (rest := []) ⟨hx, hb, hml, hown, hT⟩ (c_typeAt l D cy s.heap.size (xa 1) (xa 6) (xa 7) (xa 8) (xa 9) p0) (cwV 1 hT (gTBV t_1537 t_1263 t_1264 t_139 t_1265) rfl rfl rfl (by decide +kernel) ⟨Nat.le_of_ble_eq_true rfl, Nat.le_of_ble_eq_true rfl⟩) ⟨fun a U g mk q => by obtain ⟨q0, q1, qP, qK, qD⟩ := q; exact ⟨q0, q1, qP, va_K.moved (u := U) (U := U.calling g mk a) (Vm.Alike.refl U.vm) qK, qD⟩, va_recv hK hPc (ci := 7) (q0 := 0) rfl rfl, fun U hU hW => ⟨rfl, by rw [hU], by rw [hU]; exact hPc, va_K.moved hW.alike hK, hDc.weaken (fun _ _ _ _ => trivial)⟩⟩ rfl rfl hl.1 rfl (lv_room (Nat.le_of_ble_eq_true rfl)) dX11_type_5 ⟨Nat.le_of_ble_eq_true rfl, Nat.le_of_ble_eq_true rfl⟩) hS (fun q _ h => hFc q h) hFc (fun r1 u t H1 locs ht hvm w2 hB hz1 hk1 hS => ?_)
  obtain ⟨hP1, hD1⟩ := hB
  rw [ht] at hP1
  obtain ⟨hP, hD⟩ := va_join (wr := [(hx0, .inr (11, [.ref (xa 0), .int 0, .int (-1), .ref (xa 1), .ref (xa 2), .ref (xa 3), .ref (xa 4), .ref (xa 5)]))]) (w1 := [((xa 1), .inr (7, [.ref (xa 6), .int 0, .ref (xa 7), .ref (xa 8), .int 0, .ref (xa 9), .int 0, .int 0, .int 0]))]) hP hD [1] [0] rfl rfl (by decide) (by decide) hk1 hFc hP1 hD1
  generalize H1 = H at hP hS ⊢
  have hP : va_P D vwCl [(hx0, .inr (11, [.ref (xa 0), .int 0, .int (-1), .ref (xa 1), .ref (xa 2), .ref (xa 3), .ref (xa 4), .ref (xa 5)])), ((xa 1), .inr (7, [.ref (xa 6), .int 0, .ref (xa 7), .ref (xa 8), .int 0, .ref (xa 9), .int 0, .int 0, .int 0]))] H := hP
  have hD : va_D A [(hx0, .inr (11, [.ref (xa 0), .int 0, .int (-1), .ref (xa 1), .ref (xa 2), .ref (xa 3), .ref (xa 4), .ref (xa 5)])), ((xa 1), .inr (7, [.ref (xa 6), .int 0, .ref (xa 7), .ref (xa 8), .int 0, .ref (xa 9), .int 0, .int 0, .int 0]))] := hD
  obtain rfl := w2
  refine lv_astore_nN (lv' := [(3, .null), (0, .ref hx0), (1, .int p0), (2, .int p1)]) hx hb dX11_type_8 rfl hl (by decide) rfl (fun ls hl => ?_)
  refine lv_aload_nN hx hb dX11_type_9 rfl (lv_at hl 0 rfl) ?_
  refine lv_ifnonnullN hx hb dX11_type_10 ?_
  refine lv_iconst (v := (-1)) hx hb dX11_type_13 (by decide) ?_
  have hP9 := hP.sub (ws' := []) [] rfl
  have hD9 := hD.sub (ws' := []) [] (by decide) rfl
  refine W.widen (k := 0) (n := 0) (Nat.le_of_ble_eq_true rfl) (Nat.le_of_ble_eq_true rfl) ?_
  exact W.iret (v := (-1)) hx hb hr (fun t ht hW => ⟨⟨(-1), (), rfl, rfl, by rw [ht]; exact hP9, hD9⟩, hS.F ht⟩) hS.2.2 dX11_type_14

set_option maxHeartbeats 4000000 in
set_option maxRecDepth 100000 in
theorem m_type (l : Launch) (D : va_G) (cy : Nat → ClassId) (sz : Nat) (hm : Nat) (ma : Nat → Nat) (p0 : Int32) (p1 : Int32) : Met l yX12_type (.code yX12_type cX12_type 7 (some .int) :: TB) ({ frames := 0, cells := 0, slots := 0, locals := 0 }) (va_Pc [.ref hm, .int p0, .int p1] (fun U => U.heap.size = sz ∧ va_P D vwCl [(hm, .inr (12, [.int 0, .ref (ma 1), .int 0, .int (-1), .ref (ma 4), .int 0, .int 0, .int 0, .long 0, .int 0, .int 0, .int 0, .int 0, .long 0, .int 0, .int 0, .int 0, .ref (ma 17), .ref (ma 18), .ref (ma 19), .ref (ma 20), .ref (ma 21), .ref (ma 22), .ref (ma 23), .ref (ma 24), .ref (ma 25), .ref (ma 26), .ref (ma 27), .ref (ma 28), .ref (ma 29), .ref (ma 30), .ref (ma 31), .ref (ma 32), .ref (ma 33), .ref (ma 34), .ref (ma 35), .ref (ma 36), .ref (ma 37), .ref (ma 38), .ref (ma 39), .ref (ma 40), .ref (ma 41), .ref (ma 42), .ref (ma 43), .ref (ma 44), .ref (ma 45), .ref (ma 46), .ref (ma 47), .ref (ma 48), .int 0, .int 0, .int 0, .int 0, .int 0, .int 0, .int 0, .int 0, .int 0, .int 0, .ref (ma 59), .ref (ma 60), .int 0, .int 0, .int 0, .int 0, .int 0, .int 0, .ref (ma 67), .ref (ma 68), .ref (ma 69), .int 0, .int (-1), .int 0, .ref (ma 73)])), ((ma 17), .inl (cy 1, 2, .inl (fun _ => 0)))] U.heap ∧ va_K D vwCl (TY cy) U ∧ va_D (fun _ => True) [(hm, .inr (12, [.int 0, .ref (ma 1), .int 0, .int (-1), .ref (ma 4), .int 0, .int 0, .int 0, .long 0, .int 0, .int 0, .int 0, .int 0, .long 0, .int 0, .int 0, .int 0, .ref (ma 17), .ref (ma 18), .ref (ma 19), .ref (ma 20), .ref (ma 21), .ref (ma 22), .ref (ma 23), .ref (ma 24), .ref (ma 25), .ref (ma 26), .ref (ma 27), .ref (ma 28), .ref (ma 29), .ref (ma 30), .ref (ma 31), .ref (ma 32), .ref (ma 33), .ref (ma 34), .ref (ma 35), .ref (ma 36), .ref (ma 37), .ref (ma 38), .ref (ma 39), .ref (ma 40), .ref (ma 41), .ref (ma 42), .ref (ma 43), .ref (ma 44), .ref (ma 45), .ref (ma 46), .ref (ma 47), .ref (ma 48), .int 0, .int 0, .int 0, .int 0, .int 0, .int 0, .int 0, .int 0, .int 0, .int 0, .ref (ma 59), .ref (ma 60), .int 0, .int 0, .int 0, .int 0, .int 0, .int 0, .ref (ma 67), .ref (ma 68), .ref (ma 69), .int 0, .int (-1), .int 0, .ref (ma 73)])), ((ma 17), .inl (cy 1, 2, .inl (fun _ => 0)))])) (va_Qi (fun (r : Int32) (u : Unit) => r = -1) (fun (u : Unit) t => va_P D vwCl [] t.heap ∧ va_D (va_A [(hm, .inr (12, [.int 0, .ref (ma 1), .int 0, .int (-1), .ref (ma 4), .int 0, .int 0, .int 0, .long 0, .int 0, .int 0, .int 0, .int 0, .long 0, .int 0, .int 0, .int 0, .ref (ma 17), .ref (ma 18), .ref (ma 19), .ref (ma 20), .ref (ma 21), .ref (ma 22), .ref (ma 23), .ref (ma 24), .ref (ma 25), .ref (ma 26), .ref (ma 27), .ref (ma 28), .ref (ma 29), .ref (ma 30), .ref (ma 31), .ref (ma 32), .ref (ma 33), .ref (ma 34), .ref (ma 35), .ref (ma 36), .ref (ma 37), .ref (ma 38), .ref (ma 39), .ref (ma 40), .ref (ma 41), .ref (ma 42), .ref (ma 43), .ref (ma 44), .ref (ma 45), .ref (ma 46), .ref (ma 47), .ref (ma 48), .int 0, .int 0, .int 0, .int 0, .int 0, .int 0, .int 0, .int 0, .int 0, .int 0, .ref (ma 59), .ref (ma 60), .int 0, .int 0, .int 0, .int 0, .int 0, .int 0, .ref (ma 67), .ref (ma 68), .ref (ma 69), .int 0, .int (-1), .int 0, .ref (ma 73)])), ((ma 17), .inl (cy 1, 2, .inl (fun _ => 0)))] sz) []) (va_A [(hm, .inr (12, [.int 0, .ref (ma 1), .int 0, .int (-1), .ref (ma 4), .int 0, .int 0, .int 0, .long 0, .int 0, .int 0, .int 0, .int 0, .long 0, .int 0, .int 0, .int 0, .ref (ma 17), .ref (ma 18), .ref (ma 19), .ref (ma 20), .ref (ma 21), .ref (ma 22), .ref (ma 23), .ref (ma 24), .ref (ma 25), .ref (ma 26), .ref (ma 27), .ref (ma 28), .ref (ma 29), .ref (ma 30), .ref (ma 31), .ref (ma 32), .ref (ma 33), .ref (ma 34), .ref (ma 35), .ref (ma 36), .ref (ma 37), .ref (ma 38), .ref (ma 39), .ref (ma 40), .ref (ma 41), .ref (ma 42), .ref (ma 43), .ref (ma 44), .ref (ma 45), .ref (ma 46), .ref (ma 47), .ref (ma 48), .int 0, .int 0, .int 0, .int 0, .int 0, .int 0, .int 0, .int 0, .int 0, .int 0, .ref (ma 59), .ref (ma 60), .int 0, .int 0, .int 0, .int 0, .int 0, .int 0, .ref (ma 67), .ref (ma 68), .ref (ma 69), .int 0, .int (-1), .int 0, .ref (ma 73)])), ((ma 17), .inl (cy 1, 2, .inl (fun _ => 0)))] sz)) 0 0 (va_A [(hm, .inr (12, [.int 0, .ref (ma 1), .int 0, .int (-1), .ref (ma 4), .int 0, .int 0, .int 0, .long 0, .int 0, .int 0, .int 0, .int 0, .long 0, .int 0, .int 0, .int 0, .ref (ma 17), .ref (ma 18), .ref (ma 19), .ref (ma 20), .ref (ma 21), .ref (ma 22), .ref (ma 23), .ref (ma 24), .ref (ma 25), .ref (ma 26), .ref (ma 27), .ref (ma 28), .ref (ma 29), .ref (ma 30), .ref (ma 31), .ref (ma 32), .ref (ma 33), .ref (ma 34), .ref (ma 35), .ref (ma 36), .ref (ma 37), .ref (ma 38), .ref (ma 39), .ref (ma 40), .ref (ma 41), .ref (ma 42), .ref (ma 43), .ref (ma 44), .ref (ma 45), .ref (ma 46), .ref (ma 47), .ref (ma 48), .int 0, .int 0, .int 0, .int 0, .int 0, .int 0, .int 0, .int 0, .int 0, .int 0, .ref (ma 59), .ref (ma 60), .int 0, .int 0, .int 0, .int 0, .int 0, .int 0, .ref (ma 67), .ref (ma 68), .ref (ma 69), .int 0, .int (-1), .int 0, .ref (ma 73)])), ((ma 17), .inl (cy 1, 2, .inl (fun _ => 0)))] sz) := by
  refine Met.ofW (cc := cX12_type) (maxL := 7) (ret := (some .int)) (by decide) rfl ?_
  intro p e s m args below meth c s₁ B hml hv
  obtain ⟨rfl, hsz, hP, hK, hD0⟩ := hv
  have hx := B.exec
  have hb := B.bytes
  have hr := B.returns
  have hts := atoms_spec (ws := .code yX12_type cX12_type 7 (some .int) :: TB) B.pre
  have hT : ∀ w ∈ TB, w.before _ s = true := fun w h => hts w (List.mem_cons_of_mem _ h)
  have hown : s.vm.findClass "MakerStartsModel" = some m.cls := findClass_of_methodNamed B.named
  have hlocks := B.notSynchronized
  subst hsz
  have hD := hD0.self (sz := s.heap.size)
  generalize hAe : va_A [(hm, .inr (12, [.int 0, .ref (ma 1), .int 0, .int (-1), .ref (ma 4), .int 0, .int 0, .int 0, .long 0, .int 0, .int 0, .int 0, .int 0, .long 0, .int 0, .int 0, .int 0, .ref (ma 17), .ref (ma 18), .ref (ma 19), .ref (ma 20), .ref (ma 21), .ref (ma 22), .ref (ma 23), .ref (ma 24), .ref (ma 25), .ref (ma 26), .ref (ma 27), .ref (ma 28), .ref (ma 29), .ref (ma 30), .ref (ma 31), .ref (ma 32), .ref (ma 33), .ref (ma 34), .ref (ma 35), .ref (ma 36), .ref (ma 37), .ref (ma 38), .ref (ma 39), .ref (ma 40), .ref (ma 41), .ref (ma 42), .ref (ma 43), .ref (ma 44), .ref (ma 45), .ref (ma 46), .ref (ma 47), .ref (ma 48), .int 0, .int 0, .int 0, .int 0, .int 0, .int 0, .int 0, .int 0, .int 0, .int 0, .ref (ma 59), .ref (ma 60), .int 0, .int 0, .int 0, .int 0, .int 0, .int 0, .ref (ma 67), .ref (ma 68), .ref (ma 69), .int 0, .int (-1), .int 0, .ref (ma 73)])), ((ma 17), .inl (cy 1, 2, .inl (fun _ => 0)))] s.heap.size = A at hD  ⊢
  have hA : ∀ q : Nat, s.heap.size ≤ q → A q := fun q h => by rw [← hAe]; exact Or.inr h
  have hS : va_S A s.heap s.heap [] := va_S.rf
  have hP : va_P D vwCl [(hm, .inr (12, [.int 0, .ref (ma 1), .int 0, .int (-1), .ref (ma 4), .int 0, .int 0, .int 0, .long 0, .int 0, .int 0, .int 0, .int 0, .long 0, .int 0, .int 0, .int 0, .ref (ma 17), .ref (ma 18), .ref (ma 19), .ref (ma 20), .ref (ma 21), .ref (ma 22), .ref (ma 23), .ref (ma 24), .ref (ma 25), .ref (ma 26), .ref (ma 27), .ref (ma 28), .ref (ma 29), .ref (ma 30), .ref (ma 31), .ref (ma 32), .ref (ma 33), .ref (ma 34), .ref (ma 35), .ref (ma 36), .ref (ma 37), .ref (ma 38), .ref (ma 39), .ref (ma 40), .ref (ma 41), .ref (ma 42), .ref (ma 43), .ref (ma 44), .ref (ma 45), .ref (ma 46), .ref (ma 47), .ref (ma 48), .int 0, .int 0, .int 0, .int 0, .int 0, .int 0, .int 0, .int 0, .int 0, .int 0, .ref (ma 59), .ref (ma 60), .int 0, .int 0, .int 0, .int 0, .int 0, .int 0, .ref (ma 67), .ref (ma 68), .ref (ma 69), .int 0, .int (-1), .int 0, .ref (ma 73)])), ((ma 17), .inl (cy 1, 2, .inl (fun _ => 0)))] s.heap := hP
  have hl := lv_entry ([.ref hm, .int p0, .int p1]) (n := 7) (Nat.le_of_ble_eq_true rfl)
  rw [lg_entry_eq]
  generalize (lg_sl ([.ref hm, .int p0, .int p1]) ++ List.replicate (7 - (lg_sl ([.ref hm, .int p0, .int p1])).length) Slot.unset).toArray = ls at hl ⊢
  have hl : lv_has ls 7 [(0, .ref hm), (1, .int p0), (2, .int p1)] := hl
  refine lv_aload_n hx hb dX12_type_0 rfl (lv_at hl 0 rfl) ?_
  refine lv_iconst (v := 0) hx hb dX12_type_1 (by decide) ?_
  refine va_put (D := D) (ci := 12) (v := .int 0) (ty := .int) (C := RX12) (T := TX12) (N := 74) hx hb hT i_TX12 tyX12 tyX12_ok nmX12 hown hK hP hD hS 0 rfl rfl 0 (by decide) (hT _ t_1715) (fun _ h9 => h9) rfl (by decide +kernel) rfl rfl (Nat.le_of_ble_eq_true rfl) dX12_type_2 (fun H locs hP hD hS => ?_)
  have hP : va_P D vwCl [(hm, .inr (12, [.int 0, .ref (ma 1), .int 0, .int (-1), .ref (ma 4), .int 0, .int 0, .int 0, .long 0, .int 0, .int 0, .int 0, .int 0, .long 0, .int 0, .int 0, .int 0, .ref (ma 17), .ref (ma 18), .ref (ma 19), .ref (ma 20), .ref (ma 21), .ref (ma 22), .ref (ma 23), .ref (ma 24), .ref (ma 25), .ref (ma 26), .ref (ma 27), .ref (ma 28), .ref (ma 29), .ref (ma 30), .ref (ma 31), .ref (ma 32), .ref (ma 33), .ref (ma 34), .ref (ma 35), .ref (ma 36), .ref (ma 37), .ref (ma 38), .ref (ma 39), .ref (ma 40), .ref (ma 41), .ref (ma 42), .ref (ma 43), .ref (ma 44), .ref (ma 45), .ref (ma 46), .ref (ma 47), .ref (ma 48), .int 0, .int 0, .int 0, .int 0, .int 0, .int 0, .int 0, .int 0, .int 0, .int 0, .ref (ma 59), .ref (ma 60), .int 0, .int 0, .int 0, .int 0, .int 0, .int 0, .ref (ma 67), .ref (ma 68), .ref (ma 69), .int 0, .int (-1), .int 0, .ref (ma 73)])), ((ma 17), .inl (cy 1, 2, .inl (fun _ => 0)))] H := hP
  have hD : va_D A [(hm, .inr (12, [.int 0, .ref (ma 1), .int 0, .int (-1), .ref (ma 4), .int 0, .int 0, .int 0, .long 0, .int 0, .int 0, .int 0, .int 0, .long 0, .int 0, .int 0, .int 0, .ref (ma 17), .ref (ma 18), .ref (ma 19), .ref (ma 20), .ref (ma 21), .ref (ma 22), .ref (ma 23), .ref (ma 24), .ref (ma 25), .ref (ma 26), .ref (ma 27), .ref (ma 28), .ref (ma 29), .ref (ma 30), .ref (ma 31), .ref (ma 32), .ref (ma 33), .ref (ma 34), .ref (ma 35), .ref (ma 36), .ref (ma 37), .ref (ma 38), .ref (ma 39), .ref (ma 40), .ref (ma 41), .ref (ma 42), .ref (ma 43), .ref (ma 44), .ref (ma 45), .ref (ma 46), .ref (ma 47), .ref (ma 48), .int 0, .int 0, .int 0, .int 0, .int 0, .int 0, .int 0, .int 0, .int 0, .int 0, .ref (ma 59), .ref (ma 60), .int 0, .int 0, .int 0, .int 0, .int 0, .int 0, .ref (ma 67), .ref (ma 68), .ref (ma 69), .int 0, .int (-1), .int 0, .ref (ma 73)])), ((ma 17), .inl (cy 1, 2, .inl (fun _ => 0)))] := hD
  refine lv_iload_n hx hb dX12_type_5 rfl (lv_at hl 1 rfl) ?_
  refine lv_if_lt (tgt := 22) hx hb dX12_type_6 (by decide) (fun c1 => ?_) (fun c1 => ?_)
  · refine lv_iconst (v := (-1)) hx hb dX12_type_22 (by decide) ?_
    have hP9 := hP.sub (ws' := []) [] rfl
    have hD9 := hD.sub (ws' := []) [] (by decide) rfl
    refine W.widen (k := 0) (n := 0) (Nat.le_of_ble_eq_true rfl) (Nat.le_of_ble_eq_true rfl) ?_
    exact W.iret (v := (-1)) hx hb hr (fun t ht hW => ⟨⟨(-1), (), rfl, rfl, by rw [ht]; exact hP9, hD9⟩, hS.F ht⟩) hS.2.2 dX12_type_23
  · refine lv_iload_n hx hb dX12_type_9 rfl (lv_at hl 1 rfl) ?_
    refine lv_aload_n hx hb dX12_type_10 rfl (lv_at hl 0 rfl) ?_
    refine va_get (D := D) (ci := 12) (v := .ref (ma 17)) (C := RX12) (T := TX12) (N := 74) hx hb hT i_TX12 hown hK hP 0 rfl rfl 17 (by decide) (hT _ t_1732) (fun _ h9 => h9) rfl dX12_type_11 ?_
    refine lv_aload_n hx hb dX12_type_14 rfl (lv_at hl 0 rfl) ?_
    refine va_get (D := D) (ci := 12) (v := .int 0) (C := RX12) (T := TX12) (N := 74) hx hb hT i_TX12 hown hK hP 0 rfl rfl 15 (by decide) (hT _ t_1730) (fun _ h9 => h9) rfl dX12_type_15 ?_
    refine va_iald hx hb hK hP 1 1 rfl rfl (vp_in_iff.mpr (by decide)) dX12_type_18 ?_
    refine lv_topi (fun z2 e3 => ?_)
    obtain rfl : z2 = 0 := e3.trans (by first | decide | rfl)
    refine lv_icmp_lt (tgt := 24) hx hb dX12_type_19 (by decide) (fun c9 => absurd c9 c1) (fun _ => ?_)
    refine lv_iconst (v := (-1)) hx hb dX12_type_22 (by decide) ?_
    have hP9 := hP.sub (ws' := []) [] rfl
    have hD9 := hD.sub (ws' := []) [] (by decide) rfl
    refine W.widen (k := 0) (n := 0) (Nat.le_of_ble_eq_true rfl) (Nat.le_of_ble_eq_true rfl) ?_
    exact W.iret (v := (-1)) hx hb hr (fun t ht hW => ⟨⟨(-1), (), rfl, rfl, by rw [ht]; exact hP9, hD9⟩, hS.F ht⟩) hS.2.2 dX12_type_23

set_option maxHeartbeats 4000000 in
set_option maxRecDepth 100000 in
theorem c_make (l : Launch) (D : va_G) (cy : Nat → ClassId) (sz : Nat) (hx0 : Nat) (xa : Nat → Nat) (p0 : Int32) (p1 : Int32) (p2 : Int32) (p3 : Int32) (p4 : Int32) : Met l yX11_make (.code yX11_make cX11_make 8 (some .int) :: TB) ({ frames := 1, cells := 0, slots := 0, locals := 21 }) (va_Pc [.ref hx0, .int p0, .int p1, .int p2, .int p3, .int p4] (fun U => U.heap.size = sz ∧ va_P D vwCl [(hx0, .inr (11, [.ref (xa 0), .int 0, .int (-1), .ref (xa 1), .ref (xa 2), .ref (xa 3), .ref (xa 4), .ref (xa 5)])), ((xa 1), .inr (7, [.ref (xa 6), .int 0, .ref (xa 7), .ref (xa 8), .int 0, .ref (xa 9), .int 0, .int 0, .int 0]))] U.heap ∧ va_K D vwCl (TY cy) U ∧ va_D (fun _ => True) [(hx0, .inr (11, [.ref (xa 0), .int 0, .int (-1), .ref (xa 1), .ref (xa 2), .ref (xa 3), .ref (xa 4), .ref (xa 5)])), ((xa 1), .inr (7, [.ref (xa 6), .int 0, .ref (xa 7), .ref (xa 8), .int 0, .ref (xa 9), .int 0, .int 0, .int 0]))])) (va_Qi (fun (r : Int32) (u : Unit) => r = -1) (fun (u : Unit) t => va_P D vwCl [] t.heap ∧ va_D (va_A [(hx0, .inr (11, [.ref (xa 0), .int 0, .int (-1), .ref (xa 1), .ref (xa 2), .ref (xa 3), .ref (xa 4), .ref (xa 5)])), ((xa 1), .inr (7, [.ref (xa 6), .int 0, .ref (xa 7), .ref (xa 8), .int 0, .ref (xa 9), .int 0, .int 0, .int 0]))] sz) []) (va_A [(hx0, .inr (11, [.ref (xa 0), .int 0, .int (-1), .ref (xa 1), .ref (xa 2), .ref (xa 3), .ref (xa 4), .ref (xa 5)])), ((xa 1), .inr (7, [.ref (xa 6), .int 0, .ref (xa 7), .ref (xa 8), .int 0, .ref (xa 9), .int 0, .int 0, .int 0]))] sz)) 0 0 (va_A [(hx0, .inr (11, [.ref (xa 0), .int 0, .int (-1), .ref (xa 1), .ref (xa 2), .ref (xa 3), .ref (xa 4), .ref (xa 5)])), ((xa 1), .inr (7, [.ref (xa 6), .int 0, .ref (xa 7), .ref (xa 8), .int 0, .ref (xa 9), .int 0, .int 0, .int 0]))] sz) := by
  refine Met.ofW (cc := cX11_make) (maxL := 8) (ret := (some .int)) (by decide) rfl ?_
  intro p e s m args below meth c s₁ B hml hv
  obtain ⟨rfl, hsz, hP, hK, hD0⟩ := hv
  have hx := B.exec
  have hb := B.bytes
  have hr := B.returns
  have hts := atoms_spec (ws := .code yX11_make cX11_make 8 (some .int) :: TB) B.pre
  have hT : ∀ w ∈ TB, w.before _ s = true := fun w h => hts w (List.mem_cons_of_mem _ h)
  have hown : s.vm.findClass "MakerStarts" = some m.cls := findClass_of_methodNamed B.named
  have hlocks := B.notSynchronized
  subst hsz
  have hD := hD0.self (sz := s.heap.size)
  generalize hAe : va_A [(hx0, .inr (11, [.ref (xa 0), .int 0, .int (-1), .ref (xa 1), .ref (xa 2), .ref (xa 3), .ref (xa 4), .ref (xa 5)])), ((xa 1), .inr (7, [.ref (xa 6), .int 0, .ref (xa 7), .ref (xa 8), .int 0, .ref (xa 9), .int 0, .int 0, .int 0]))] s.heap.size = A at hD  ⊢
  have hA : ∀ q : Nat, s.heap.size ≤ q → A q := fun q h => by rw [← hAe]; exact Or.inr h
  have hS : va_S A s.heap s.heap [] := va_S.rf
  have hP : va_P D vwCl [(hx0, .inr (11, [.ref (xa 0), .int 0, .int (-1), .ref (xa 1), .ref (xa 2), .ref (xa 3), .ref (xa 4), .ref (xa 5)])), ((xa 1), .inr (7, [.ref (xa 6), .int 0, .ref (xa 7), .ref (xa 8), .int 0, .ref (xa 9), .int 0, .int 0, .int 0]))] s.heap := hP
  have hl := lv_entry ([.ref hx0, .int p0, .int p1, .int p2, .int p3, .int p4]) (n := 8) (Nat.le_of_ble_eq_true rfl)
  rw [lg_entry_eq]
  generalize (lg_sl ([.ref hx0, .int p0, .int p1, .int p2, .int p3, .int p4]) ++ List.replicate (8 - (lg_sl ([.ref hx0, .int p0, .int p1, .int p2, .int p3, .int p4])).length) Slot.unset).toArray = ls at hl ⊢
  have hl : lv_has ls 8 [(0, .ref hx0), (1, .int p0), (2, .int p1), (3, .int p2), (4, .int p3), (5, .int p4)] := hl
  refine lv_aload_n hx hb dX11_make_0 rfl (lv_at hl 0 rfl) ?_
  refine va_get (D := D) (ci := 11) (v := .ref (xa 1)) (C := RX11) (T := TX11) (N := 8) hx hb hT i_TX11 hown hK hP 0 rfl rfl 3 (by decide) (hT _ t_536) (fun _ h9 => h9) rfl dX11_make_1 ?_
  refine lv_iload_n hx hb dX11_make_4 rfl (lv_at hl 1 rfl) ?_
  have hPc := hP.sub (ws' := [((xa 1), .inr (7, [.ref (xa 6), .int 0, .ref (xa 7), .ref (xa 8), .int 0, .ref (xa 9), .int 0, .int 0, .int 0]))]) [1] rfl
  have hDc := hD.sub (ws' := [((xa 1), .inr (7, [.ref (xa 6), .int 0, .ref (xa 7), .ref (xa 8), .int 0, .ref (xa 9), .int 0, .int 0, .int 0]))]) [1] (by decide) rfl
  have hFc := va_free (wc := [((xa 1), .inr (7, [.ref (xa 6), .int 0, .ref (xa 7), .ref (xa 8), .int 0, .ref (xa 9), .int 0, .int 0, .int 0]))]) hD hS hA [1] rfl
  refine va_callq (va_runV (As := [.int p0]) (rest := []) ⟨hx, hb, hml, hown, hT⟩ (c_typeAt l D cy s.heap.size (xa 1) (xa 6) (xa 7) (xa 8) (xa 9) p0) (cwV 1 hT (gTBV t_1537 t_1263 t_1264 t_139 t_1265) rfl rfl rfl (by decide +kernel) ⟨Nat.le_of_ble_eq_true rfl, Nat.le_of_ble_eq_true rfl⟩) ⟨fun a U g mk q => by obtain ⟨q0, q1, qP, qK, qD⟩ := q; exact ⟨q0, q1, qP, va_K.moved (u := U) (U := U.calling g mk a) (Vm.Alike.refl U.vm) qK, qD⟩, va_recv hK hPc (ci := 7) (q0 := 0) rfl rfl, fun U hU hW => ⟨rfl, by rw [hU], by rw [hU]; exact hPc, va_K.moved hW.alike hK, hDc.weaken (fun _ _ _ _ => trivial)⟩⟩ rfl rfl hl.1 rfl (lv_room (Nat.le_of_ble_eq_true rfl)) dX11_make_5 ⟨Nat.le_of_ble_eq_true rfl, Nat.le_of_ble_eq_true rfl⟩) hS (fun q _ h => hFc q h) hFc (fun r1 u t H1 locs ht hvm w2 hB hz1 hk1 hS => ?_)
  obtain ⟨hP1, hD1⟩ := hB
  rw [ht] at hP1
  obtain ⟨hP, hD⟩ := va_join (wr := [(hx0, .inr (11, [.ref (xa 0), .int 0, .int (-1), .ref (xa 1), .ref (xa 2), .ref (xa 3), .ref (xa 4), .ref (xa 5)]))]) (w1 := [((xa 1), .inr (7, [.ref (xa 6), .int 0, .ref (xa 7), .ref (xa 8), .int 0, .ref (xa 9), .int 0, .int 0, .int 0]))]) hP hD [1] [0] rfl rfl (by decide) (by decide) hk1 hFc hP1 hD1
  generalize H1 = H at hP hS ⊢
  have hP : va_P D vwCl [(hx0, .inr (11, [.ref (xa 0), .int 0, .int (-1), .ref (xa 1), .ref (xa 2), .ref (xa 3), .ref (xa 4), .ref (xa 5)])), ((xa 1), .inr (7, [.ref (xa 6), .int 0, .ref (xa 7), .ref (xa 8), .int 0, .ref (xa 9), .int 0, .int 0, .int 0]))] H := hP
  have hD : va_D A [(hx0, .inr (11, [.ref (xa 0), .int 0, .int (-1), .ref (xa 1), .ref (xa 2), .ref (xa 3), .ref (xa 4), .ref (xa 5)])), ((xa 1), .inr (7, [.ref (xa 6), .int 0, .ref (xa 7), .ref (xa 8), .int 0, .ref (xa 9), .int 0, .int 0, .int 0]))] := hD
  obtain rfl := w2
  refine lv_astoreN (lv' := [(6, .null), (0, .ref hx0), (1, .int p0), (2, .int p1), (3, .int p2), (4, .int p3), (5, .int p4)]) hx hb dX11_make_8 hl (by decide) rfl (fun ls hl => ?_)
  refine lv_aloadN hx hb dX11_make_10 (lv_at hl 0 rfl) ?_
  refine lv_ifnonnullN hx hb dX11_make_12 ?_
  refine lv_iconst (v := (-1)) hx hb dX11_make_15 (by decide) ?_
  have hP9 := hP.sub (ws' := []) [] rfl
  have hD9 := hD.sub (ws' := []) [] (by decide) rfl
  refine W.widen (k := 0) (n := 0) (Nat.le_of_ble_eq_true rfl) (Nat.le_of_ble_eq_true rfl) ?_
  exact W.iret (v := (-1)) hx hb hr (fun t ht hW => ⟨⟨(-1), (), rfl, rfl, by rw [ht]; exact hP9, hD9⟩, hS.F ht⟩) hS.2.2 dX11_make_16

set_option maxHeartbeats 4000000 in
set_option maxRecDepth 100000 in
theorem m_make (l : Launch) (D : va_G) (cy : Nat → ClassId) (sz : Nat) (hm : Nat) (ma : Nat → Nat) (p0 : Int32) (p1 : Int32) (p2 : Int32) (p3 : Int32) (p4 : Int32) : Met l yX12_make (.code yX12_make cX12_make 8 (some .int) :: TB) ({ frames := 0, cells := 0, slots := 0, locals := 0 }) (va_Pc [.ref hm, .int p0, .int p1, .int p2, .int p3, .int p4] (fun U => U.heap.size = sz ∧ va_P D vwCl [(hm, .inr (12, [.int 0, .ref (ma 1), .int 0, .int (-1), .ref (ma 4), .int 0, .int 0, .int 0, .long 0, .int 0, .int 0, .int 0, .int 0, .long 0, .int 0, .int 0, .int 0, .ref (ma 17), .ref (ma 18), .ref (ma 19), .ref (ma 20), .ref (ma 21), .ref (ma 22), .ref (ma 23), .ref (ma 24), .ref (ma 25), .ref (ma 26), .ref (ma 27), .ref (ma 28), .ref (ma 29), .ref (ma 30), .ref (ma 31), .ref (ma 32), .ref (ma 33), .ref (ma 34), .ref (ma 35), .ref (ma 36), .ref (ma 37), .ref (ma 38), .ref (ma 39), .ref (ma 40), .ref (ma 41), .ref (ma 42), .ref (ma 43), .ref (ma 44), .ref (ma 45), .ref (ma 46), .ref (ma 47), .ref (ma 48), .int 0, .int 0, .int 0, .int 0, .int 0, .int 0, .int 0, .int 0, .int 0, .int 0, .ref (ma 59), .ref (ma 60), .int 0, .int 0, .int 0, .int 0, .int 0, .int 0, .ref (ma 67), .ref (ma 68), .ref (ma 69), .int 0, .int (-1), .int 0, .ref (ma 73)])), ((ma 17), .inl (cy 1, 2, .inl (fun _ => 0)))] U.heap ∧ va_K D vwCl (TY cy) U ∧ va_D (fun _ => True) [(hm, .inr (12, [.int 0, .ref (ma 1), .int 0, .int (-1), .ref (ma 4), .int 0, .int 0, .int 0, .long 0, .int 0, .int 0, .int 0, .int 0, .long 0, .int 0, .int 0, .int 0, .ref (ma 17), .ref (ma 18), .ref (ma 19), .ref (ma 20), .ref (ma 21), .ref (ma 22), .ref (ma 23), .ref (ma 24), .ref (ma 25), .ref (ma 26), .ref (ma 27), .ref (ma 28), .ref (ma 29), .ref (ma 30), .ref (ma 31), .ref (ma 32), .ref (ma 33), .ref (ma 34), .ref (ma 35), .ref (ma 36), .ref (ma 37), .ref (ma 38), .ref (ma 39), .ref (ma 40), .ref (ma 41), .ref (ma 42), .ref (ma 43), .ref (ma 44), .ref (ma 45), .ref (ma 46), .ref (ma 47), .ref (ma 48), .int 0, .int 0, .int 0, .int 0, .int 0, .int 0, .int 0, .int 0, .int 0, .int 0, .ref (ma 59), .ref (ma 60), .int 0, .int 0, .int 0, .int 0, .int 0, .int 0, .ref (ma 67), .ref (ma 68), .ref (ma 69), .int 0, .int (-1), .int 0, .ref (ma 73)])), ((ma 17), .inl (cy 1, 2, .inl (fun _ => 0)))])) (va_Qi (fun (r : Int32) (u : Unit) => r = -1) (fun (u : Unit) t => va_P D vwCl [] t.heap ∧ va_D (va_A [(hm, .inr (12, [.int 0, .ref (ma 1), .int 0, .int (-1), .ref (ma 4), .int 0, .int 0, .int 0, .long 0, .int 0, .int 0, .int 0, .int 0, .long 0, .int 0, .int 0, .int 0, .ref (ma 17), .ref (ma 18), .ref (ma 19), .ref (ma 20), .ref (ma 21), .ref (ma 22), .ref (ma 23), .ref (ma 24), .ref (ma 25), .ref (ma 26), .ref (ma 27), .ref (ma 28), .ref (ma 29), .ref (ma 30), .ref (ma 31), .ref (ma 32), .ref (ma 33), .ref (ma 34), .ref (ma 35), .ref (ma 36), .ref (ma 37), .ref (ma 38), .ref (ma 39), .ref (ma 40), .ref (ma 41), .ref (ma 42), .ref (ma 43), .ref (ma 44), .ref (ma 45), .ref (ma 46), .ref (ma 47), .ref (ma 48), .int 0, .int 0, .int 0, .int 0, .int 0, .int 0, .int 0, .int 0, .int 0, .int 0, .ref (ma 59), .ref (ma 60), .int 0, .int 0, .int 0, .int 0, .int 0, .int 0, .ref (ma 67), .ref (ma 68), .ref (ma 69), .int 0, .int (-1), .int 0, .ref (ma 73)])), ((ma 17), .inl (cy 1, 2, .inl (fun _ => 0)))] sz) []) (va_A [(hm, .inr (12, [.int 0, .ref (ma 1), .int 0, .int (-1), .ref (ma 4), .int 0, .int 0, .int 0, .long 0, .int 0, .int 0, .int 0, .int 0, .long 0, .int 0, .int 0, .int 0, .ref (ma 17), .ref (ma 18), .ref (ma 19), .ref (ma 20), .ref (ma 21), .ref (ma 22), .ref (ma 23), .ref (ma 24), .ref (ma 25), .ref (ma 26), .ref (ma 27), .ref (ma 28), .ref (ma 29), .ref (ma 30), .ref (ma 31), .ref (ma 32), .ref (ma 33), .ref (ma 34), .ref (ma 35), .ref (ma 36), .ref (ma 37), .ref (ma 38), .ref (ma 39), .ref (ma 40), .ref (ma 41), .ref (ma 42), .ref (ma 43), .ref (ma 44), .ref (ma 45), .ref (ma 46), .ref (ma 47), .ref (ma 48), .int 0, .int 0, .int 0, .int 0, .int 0, .int 0, .int 0, .int 0, .int 0, .int 0, .ref (ma 59), .ref (ma 60), .int 0, .int 0, .int 0, .int 0, .int 0, .int 0, .ref (ma 67), .ref (ma 68), .ref (ma 69), .int 0, .int (-1), .int 0, .ref (ma 73)])), ((ma 17), .inl (cy 1, 2, .inl (fun _ => 0)))] sz)) 0 0 (va_A [(hm, .inr (12, [.int 0, .ref (ma 1), .int 0, .int (-1), .ref (ma 4), .int 0, .int 0, .int 0, .long 0, .int 0, .int 0, .int 0, .int 0, .long 0, .int 0, .int 0, .int 0, .ref (ma 17), .ref (ma 18), .ref (ma 19), .ref (ma 20), .ref (ma 21), .ref (ma 22), .ref (ma 23), .ref (ma 24), .ref (ma 25), .ref (ma 26), .ref (ma 27), .ref (ma 28), .ref (ma 29), .ref (ma 30), .ref (ma 31), .ref (ma 32), .ref (ma 33), .ref (ma 34), .ref (ma 35), .ref (ma 36), .ref (ma 37), .ref (ma 38), .ref (ma 39), .ref (ma 40), .ref (ma 41), .ref (ma 42), .ref (ma 43), .ref (ma 44), .ref (ma 45), .ref (ma 46), .ref (ma 47), .ref (ma 48), .int 0, .int 0, .int 0, .int 0, .int 0, .int 0, .int 0, .int 0, .int 0, .int 0, .ref (ma 59), .ref (ma 60), .int 0, .int 0, .int 0, .int 0, .int 0, .int 0, .ref (ma 67), .ref (ma 68), .ref (ma 69), .int 0, .int (-1), .int 0, .ref (ma 73)])), ((ma 17), .inl (cy 1, 2, .inl (fun _ => 0)))] sz) := by
  refine Met.ofW (cc := cX12_make) (maxL := 8) (ret := (some .int)) (by decide) rfl ?_
  intro p e s m args below meth c s₁ B hml hv
  obtain ⟨rfl, hsz, hP, hK, hD0⟩ := hv
  have hx := B.exec
  have hb := B.bytes
  have hr := B.returns
  have hts := atoms_spec (ws := .code yX12_make cX12_make 8 (some .int) :: TB) B.pre
  have hT : ∀ w ∈ TB, w.before _ s = true := fun w h => hts w (List.mem_cons_of_mem _ h)
  have hown : s.vm.findClass "MakerStartsModel" = some m.cls := findClass_of_methodNamed B.named
  have hlocks := B.notSynchronized
  subst hsz
  have hD := hD0.self (sz := s.heap.size)
  generalize hAe : va_A [(hm, .inr (12, [.int 0, .ref (ma 1), .int 0, .int (-1), .ref (ma 4), .int 0, .int 0, .int 0, .long 0, .int 0, .int 0, .int 0, .int 0, .long 0, .int 0, .int 0, .int 0, .ref (ma 17), .ref (ma 18), .ref (ma 19), .ref (ma 20), .ref (ma 21), .ref (ma 22), .ref (ma 23), .ref (ma 24), .ref (ma 25), .ref (ma 26), .ref (ma 27), .ref (ma 28), .ref (ma 29), .ref (ma 30), .ref (ma 31), .ref (ma 32), .ref (ma 33), .ref (ma 34), .ref (ma 35), .ref (ma 36), .ref (ma 37), .ref (ma 38), .ref (ma 39), .ref (ma 40), .ref (ma 41), .ref (ma 42), .ref (ma 43), .ref (ma 44), .ref (ma 45), .ref (ma 46), .ref (ma 47), .ref (ma 48), .int 0, .int 0, .int 0, .int 0, .int 0, .int 0, .int 0, .int 0, .int 0, .int 0, .ref (ma 59), .ref (ma 60), .int 0, .int 0, .int 0, .int 0, .int 0, .int 0, .ref (ma 67), .ref (ma 68), .ref (ma 69), .int 0, .int (-1), .int 0, .ref (ma 73)])), ((ma 17), .inl (cy 1, 2, .inl (fun _ => 0)))] s.heap.size = A at hD  ⊢
  have hA : ∀ q : Nat, s.heap.size ≤ q → A q := fun q h => by rw [← hAe]; exact Or.inr h
  have hS : va_S A s.heap s.heap [] := va_S.rf
  have hP : va_P D vwCl [(hm, .inr (12, [.int 0, .ref (ma 1), .int 0, .int (-1), .ref (ma 4), .int 0, .int 0, .int 0, .long 0, .int 0, .int 0, .int 0, .int 0, .long 0, .int 0, .int 0, .int 0, .ref (ma 17), .ref (ma 18), .ref (ma 19), .ref (ma 20), .ref (ma 21), .ref (ma 22), .ref (ma 23), .ref (ma 24), .ref (ma 25), .ref (ma 26), .ref (ma 27), .ref (ma 28), .ref (ma 29), .ref (ma 30), .ref (ma 31), .ref (ma 32), .ref (ma 33), .ref (ma 34), .ref (ma 35), .ref (ma 36), .ref (ma 37), .ref (ma 38), .ref (ma 39), .ref (ma 40), .ref (ma 41), .ref (ma 42), .ref (ma 43), .ref (ma 44), .ref (ma 45), .ref (ma 46), .ref (ma 47), .ref (ma 48), .int 0, .int 0, .int 0, .int 0, .int 0, .int 0, .int 0, .int 0, .int 0, .int 0, .ref (ma 59), .ref (ma 60), .int 0, .int 0, .int 0, .int 0, .int 0, .int 0, .ref (ma 67), .ref (ma 68), .ref (ma 69), .int 0, .int (-1), .int 0, .ref (ma 73)])), ((ma 17), .inl (cy 1, 2, .inl (fun _ => 0)))] s.heap := hP
  have hl := lv_entry ([.ref hm, .int p0, .int p1, .int p2, .int p3, .int p4]) (n := 8) (Nat.le_of_ble_eq_true rfl)
  rw [lg_entry_eq]
  generalize (lg_sl ([.ref hm, .int p0, .int p1, .int p2, .int p3, .int p4]) ++ List.replicate (8 - (lg_sl ([.ref hm, .int p0, .int p1, .int p2, .int p3, .int p4])).length) Slot.unset).toArray = ls at hl ⊢
  have hl : lv_has ls 8 [(0, .ref hm), (1, .int p0), (2, .int p1), (3, .int p2), (4, .int p3), (5, .int p4)] := hl
  refine lv_aload_n hx hb dX12_make_0 rfl (lv_at hl 0 rfl) ?_
  refine lv_iconst (v := 0) hx hb dX12_make_1 (by decide) ?_
  refine va_put (D := D) (ci := 12) (v := .int 0) (ty := .int) (C := RX12) (T := TX12) (N := 74) hx hb hT i_TX12 tyX12 tyX12_ok nmX12 hown hK hP hD hS 0 rfl rfl 0 (by decide) (hT _ t_1715) (fun _ h9 => h9) rfl (by decide +kernel) rfl rfl (Nat.le_of_ble_eq_true rfl) dX12_make_2 (fun H locs hP hD hS => ?_)
  have hP : va_P D vwCl [(hm, .inr (12, [.int 0, .ref (ma 1), .int 0, .int (-1), .ref (ma 4), .int 0, .int 0, .int 0, .long 0, .int 0, .int 0, .int 0, .int 0, .long 0, .int 0, .int 0, .int 0, .ref (ma 17), .ref (ma 18), .ref (ma 19), .ref (ma 20), .ref (ma 21), .ref (ma 22), .ref (ma 23), .ref (ma 24), .ref (ma 25), .ref (ma 26), .ref (ma 27), .ref (ma 28), .ref (ma 29), .ref (ma 30), .ref (ma 31), .ref (ma 32), .ref (ma 33), .ref (ma 34), .ref (ma 35), .ref (ma 36), .ref (ma 37), .ref (ma 38), .ref (ma 39), .ref (ma 40), .ref (ma 41), .ref (ma 42), .ref (ma 43), .ref (ma 44), .ref (ma 45), .ref (ma 46), .ref (ma 47), .ref (ma 48), .int 0, .int 0, .int 0, .int 0, .int 0, .int 0, .int 0, .int 0, .int 0, .int 0, .ref (ma 59), .ref (ma 60), .int 0, .int 0, .int 0, .int 0, .int 0, .int 0, .ref (ma 67), .ref (ma 68), .ref (ma 69), .int 0, .int (-1), .int 0, .ref (ma 73)])), ((ma 17), .inl (cy 1, 2, .inl (fun _ => 0)))] H := hP
  have hD : va_D A [(hm, .inr (12, [.int 0, .ref (ma 1), .int 0, .int (-1), .ref (ma 4), .int 0, .int 0, .int 0, .long 0, .int 0, .int 0, .int 0, .int 0, .long 0, .int 0, .int 0, .int 0, .ref (ma 17), .ref (ma 18), .ref (ma 19), .ref (ma 20), .ref (ma 21), .ref (ma 22), .ref (ma 23), .ref (ma 24), .ref (ma 25), .ref (ma 26), .ref (ma 27), .ref (ma 28), .ref (ma 29), .ref (ma 30), .ref (ma 31), .ref (ma 32), .ref (ma 33), .ref (ma 34), .ref (ma 35), .ref (ma 36), .ref (ma 37), .ref (ma 38), .ref (ma 39), .ref (ma 40), .ref (ma 41), .ref (ma 42), .ref (ma 43), .ref (ma 44), .ref (ma 45), .ref (ma 46), .ref (ma 47), .ref (ma 48), .int 0, .int 0, .int 0, .int 0, .int 0, .int 0, .int 0, .int 0, .int 0, .int 0, .ref (ma 59), .ref (ma 60), .int 0, .int 0, .int 0, .int 0, .int 0, .int 0, .ref (ma 67), .ref (ma 68), .ref (ma 69), .int 0, .int (-1), .int 0, .ref (ma 73)])), ((ma 17), .inl (cy 1, 2, .inl (fun _ => 0)))] := hD
  refine lv_iload_n hx hb dX12_make_5 rfl (lv_at hl 1 rfl) ?_
  refine lv_if_lt (tgt := 22) hx hb dX12_make_6 (by decide) (fun c1 => ?_) (fun c1 => ?_)
  · refine lv_iconst (v := (-1)) hx hb dX12_make_22 (by decide) ?_
    have hP9 := hP.sub (ws' := []) [] rfl
    have hD9 := hD.sub (ws' := []) [] (by decide) rfl
    refine W.widen (k := 0) (n := 0) (Nat.le_of_ble_eq_true rfl) (Nat.le_of_ble_eq_true rfl) ?_
    exact W.iret (v := (-1)) hx hb hr (fun t ht hW => ⟨⟨(-1), (), rfl, rfl, by rw [ht]; exact hP9, hD9⟩, hS.F ht⟩) hS.2.2 dX12_make_23
  · refine lv_iload_n hx hb dX12_make_9 rfl (lv_at hl 1 rfl) ?_
    refine lv_aload_n hx hb dX12_make_10 rfl (lv_at hl 0 rfl) ?_
    refine va_get (D := D) (ci := 12) (v := .ref (ma 17)) (C := RX12) (T := TX12) (N := 74) hx hb hT i_TX12 hown hK hP 0 rfl rfl 17 (by decide) (hT _ t_1732) (fun _ h9 => h9) rfl dX12_make_11 ?_
    refine lv_aload_n hx hb dX12_make_14 rfl (lv_at hl 0 rfl) ?_
    refine va_get (D := D) (ci := 12) (v := .int 0) (C := RX12) (T := TX12) (N := 74) hx hb hT i_TX12 hown hK hP 0 rfl rfl 15 (by decide) (hT _ t_1730) (fun _ h9 => h9) rfl dX12_make_15 ?_
    refine va_iald hx hb hK hP 1 1 rfl rfl (vp_in_iff.mpr (by decide)) dX12_make_18 ?_
    refine lv_topi (fun z2 e3 => ?_)
    obtain rfl : z2 = 0 := e3.trans (by first | decide | rfl)
    refine lv_icmp_lt (tgt := 24) hx hb dX12_make_19 (by decide) (fun c9 => absurd c9 c1) (fun _ => ?_)
    refine lv_iconst (v := (-1)) hx hb dX12_make_22 (by decide) ?_
    have hP9 := hP.sub (ws' := []) [] rfl
    have hD9 := hD.sub (ws' := []) [] (by decide) rfl
    refine W.widen (k := 0) (n := 0) (Nat.le_of_ble_eq_true rfl) (Nat.le_of_ble_eq_true rfl) ?_
    exact W.iret (v := (-1)) hx hb hr (fun t ht hW => ⟨⟨(-1), (), rfl, rfl, by rw [ht]; exact hP9, hD9⟩, hS.F ht⟩) hS.2.2 dX12_make_23

set_option maxHeartbeats 4000000 in
set_option maxRecDepth 100000 in
theorem c_start (l : Launch) (D : va_G) (cy : Nat → ClassId) (sz : Nat) (hx0 : Nat) (xa : Nat → Nat) (p0 : Int32) : Met l yX11_start (.code yX11_start cX11_start 3 (some .int) :: TB) ({ frames := 1, cells := 0, slots := 0, locals := 21 }) (va_Pc [.ref hx0, .int p0] (fun U => U.heap.size = sz ∧ va_P D vwCl [(hx0, .inr (11, [.ref (xa 0), .int 0, .int (-1), .ref (xa 1), .ref (xa 2), .ref (xa 3), .ref (xa 4), .ref (xa 5)])), ((xa 1), .inr (7, [.ref (xa 6), .int 0, .ref (xa 7), .ref (xa 8), .int 0, .ref (xa 9), .int 0, .int 0, .int 0]))] U.heap ∧ va_K D vwCl (TY cy) U ∧ va_D (fun _ => True) [(hx0, .inr (11, [.ref (xa 0), .int 0, .int (-1), .ref (xa 1), .ref (xa 2), .ref (xa 3), .ref (xa 4), .ref (xa 5)])), ((xa 1), .inr (7, [.ref (xa 6), .int 0, .ref (xa 7), .ref (xa 8), .int 0, .ref (xa 9), .int 0, .int 0, .int 0]))])) (va_Qi (fun (r : Int32) (u : Unit) => r = -1) (fun (u : Unit) t => va_P D vwCl [] t.heap ∧ va_D (va_A [(hx0, .inr (11, [.ref (xa 0), .int 0, .int (-1), .ref (xa 1), .ref (xa 2), .ref (xa 3), .ref (xa 4), .ref (xa 5)])), ((xa 1), .inr (7, [.ref (xa 6), .int 0, .ref (xa 7), .ref (xa 8), .int 0, .ref (xa 9), .int 0, .int 0, .int 0]))] sz) []) (va_A [(hx0, .inr (11, [.ref (xa 0), .int 0, .int (-1), .ref (xa 1), .ref (xa 2), .ref (xa 3), .ref (xa 4), .ref (xa 5)])), ((xa 1), .inr (7, [.ref (xa 6), .int 0, .ref (xa 7), .ref (xa 8), .int 0, .ref (xa 9), .int 0, .int 0, .int 0]))] sz)) 0 0 (va_A [(hx0, .inr (11, [.ref (xa 0), .int 0, .int (-1), .ref (xa 1), .ref (xa 2), .ref (xa 3), .ref (xa 4), .ref (xa 5)])), ((xa 1), .inr (7, [.ref (xa 6), .int 0, .ref (xa 7), .ref (xa 8), .int 0, .ref (xa 9), .int 0, .int 0, .int 0]))] sz) := by
  refine Met.ofW (cc := cX11_start) (maxL := 3) (ret := (some .int)) (by decide) rfl ?_
  intro p e s m args below meth c s₁ B hml hv
  obtain ⟨rfl, hsz, hP, hK, hD0⟩ := hv
  have hx := B.exec
  have hb := B.bytes
  have hr := B.returns
  have hts := atoms_spec (ws := .code yX11_start cX11_start 3 (some .int) :: TB) B.pre
  have hT : ∀ w ∈ TB, w.before _ s = true := fun w h => hts w (List.mem_cons_of_mem _ h)
  have hown : s.vm.findClass "MakerStarts" = some m.cls := findClass_of_methodNamed B.named
  have hlocks := B.notSynchronized
  subst hsz
  have hD := hD0.self (sz := s.heap.size)
  generalize hAe : va_A [(hx0, .inr (11, [.ref (xa 0), .int 0, .int (-1), .ref (xa 1), .ref (xa 2), .ref (xa 3), .ref (xa 4), .ref (xa 5)])), ((xa 1), .inr (7, [.ref (xa 6), .int 0, .ref (xa 7), .ref (xa 8), .int 0, .ref (xa 9), .int 0, .int 0, .int 0]))] s.heap.size = A at hD  ⊢
  have hA : ∀ q : Nat, s.heap.size ≤ q → A q := fun q h => by rw [← hAe]; exact Or.inr h
  have hS : va_S A s.heap s.heap [] := va_S.rf
  have hP : va_P D vwCl [(hx0, .inr (11, [.ref (xa 0), .int 0, .int (-1), .ref (xa 1), .ref (xa 2), .ref (xa 3), .ref (xa 4), .ref (xa 5)])), ((xa 1), .inr (7, [.ref (xa 6), .int 0, .ref (xa 7), .ref (xa 8), .int 0, .ref (xa 9), .int 0, .int 0, .int 0]))] s.heap := hP
  have hl := lv_entry ([.ref hx0, .int p0]) (n := 3) (Nat.le_of_ble_eq_true rfl)
  rw [lg_entry_eq]
  generalize (lg_sl ([.ref hx0, .int p0]) ++ List.replicate (3 - (lg_sl ([.ref hx0, .int p0])).length) Slot.unset).toArray = ls at hl ⊢
  have hl : lv_has ls 3 [(0, .ref hx0), (1, .int p0)] := hl
  refine lv_aload_n hx hb dX11_start_0 rfl (lv_at hl 0 rfl) ?_
  refine va_get (D := D) (ci := 11) (v := .ref (xa 1)) (C := RX11) (T := TX11) (N := 8) hx hb hT i_TX11 hown hK hP 0 rfl rfl 3 (by decide) (hT _ t_536) (fun _ h9 => h9) rfl dX11_start_1 ?_
  refine lv_iload_n hx hb dX11_start_4 rfl (lv_at hl 1 rfl) ?_
  have hPc := hP.sub (ws' := [((xa 1), .inr (7, [.ref (xa 6), .int 0, .ref (xa 7), .ref (xa 8), .int 0, .ref (xa 9), .int 0, .int 0, .int 0]))]) [1] rfl
  have hDc := hD.sub (ws' := [((xa 1), .inr (7, [.ref (xa 6), .int 0, .ref (xa 7), .ref (xa 8), .int 0, .ref (xa 9), .int 0, .int 0, .int 0]))]) [1] (by decide) rfl
  have hFc := va_free (wc := [((xa 1), .inr (7, [.ref (xa 6), .int 0, .ref (xa 7), .ref (xa 8), .int 0, .ref (xa 9), .int 0, .int 0, .int 0]))]) hD hS hA [1] rfl
  refine va_callq (va_runV (As := [.int p0]) (rest := []) ⟨hx, hb, hml, hown, hT⟩ (c_typeAt l D cy s.heap.size (xa 1) (xa 6) (xa 7) (xa 8) (xa 9) p0) (cwV 1 hT (gTBV t_1537 t_1263 t_1264 t_139 t_1265) rfl rfl rfl (by decide +kernel) ⟨Nat.le_of_ble_eq_true rfl, Nat.le_of_ble_eq_true rfl⟩) ⟨fun a U g mk q => by obtain ⟨q0, q1, qP, qK, qD⟩ := q; exact ⟨q0, q1, qP, va_K.moved (u := U) (U := U.calling g mk a) (Vm.Alike.refl U.vm) qK, qD⟩, va_recv hK hPc (ci := 7) (q0 := 0) rfl rfl, fun U hU hW => ⟨rfl, by rw [hU], by rw [hU]; exact hPc, va_K.moved hW.alike hK, hDc.weaken (fun _ _ _ _ => trivial)⟩⟩ rfl rfl hl.1 rfl (lv_room (Nat.le_of_ble_eq_true rfl)) dX11_start_5 ⟨Nat.le_of_ble_eq_true rfl, Nat.le_of_ble_eq_true rfl⟩) hS (fun q _ h => hFc q h) hFc (fun r1 u t H1 locs ht hvm w2 hB hz1 hk1 hS => ?_)
  obtain ⟨hP1, hD1⟩ := hB
  rw [ht] at hP1
  obtain ⟨hP, hD⟩ := va_join (wr := [(hx0, .inr (11, [.ref (xa 0), .int 0, .int (-1), .ref (xa 1), .ref (xa 2), .ref (xa 3), .ref (xa 4), .ref (xa 5)]))]) (w1 := [((xa 1), .inr (7, [.ref (xa 6), .int 0, .ref (xa 7), .ref (xa 8), .int 0, .ref (xa 9), .int 0, .int 0, .int 0]))]) hP hD [1] [0] rfl rfl (by decide) (by decide) hk1 hFc hP1 hD1
  generalize H1 = H at hP hS ⊢
  have hP : va_P D vwCl [(hx0, .inr (11, [.ref (xa 0), .int 0, .int (-1), .ref (xa 1), .ref (xa 2), .ref (xa 3), .ref (xa 4), .ref (xa 5)])), ((xa 1), .inr (7, [.ref (xa 6), .int 0, .ref (xa 7), .ref (xa 8), .int 0, .ref (xa 9), .int 0, .int 0, .int 0]))] H := hP
  have hD : va_D A [(hx0, .inr (11, [.ref (xa 0), .int 0, .int (-1), .ref (xa 1), .ref (xa 2), .ref (xa 3), .ref (xa 4), .ref (xa 5)])), ((xa 1), .inr (7, [.ref (xa 6), .int 0, .ref (xa 7), .ref (xa 8), .int 0, .ref (xa 9), .int 0, .int 0, .int 0]))] := hD
  obtain rfl := w2
  refine lv_astore_nN (lv' := [(2, .null), (0, .ref hx0), (1, .int p0)]) hx hb dX11_start_8 rfl hl (by decide) rfl (fun ls hl => ?_)
  refine lv_aload_nN hx hb dX11_start_9 rfl (lv_at hl 0 rfl) ?_
  refine lv_ifnonnullN hx hb dX11_start_10 ?_
  refine lv_iconst (v := (-1)) hx hb dX11_start_13 (by decide) ?_
  refine lv_goto (tgt := 25) hx hb dX11_start_14 (by decide) ?_
  have hP9 := hP.sub (ws' := []) [] rfl
  have hD9 := hD.sub (ws' := []) [] (by decide) rfl
  refine W.widen (k := 0) (n := 0) (Nat.le_of_ble_eq_true rfl) (Nat.le_of_ble_eq_true rfl) ?_
  exact W.iret (v := (-1)) hx hb hr (fun t ht hW => ⟨⟨(-1), (), rfl, rfl, by rw [ht]; exact hP9, hD9⟩, hS.F ht⟩) hS.2.2 dX11_start_25

set_option maxHeartbeats 4000000 in
set_option maxRecDepth 100000 in
theorem m_start (l : Launch) (D : va_G) (cy : Nat → ClassId) (sz : Nat) (hm : Nat) (ma : Nat → Nat) (p0 : Int32) : Met l yX12_start (.code yX12_start cX12_start 2 (some .int) :: TB) ({ frames := 0, cells := 0, slots := 0, locals := 0 }) (va_Pc [.ref hm, .int p0] (fun U => U.heap.size = sz ∧ va_P D vwCl [(hm, .inr (12, [.int 0, .ref (ma 1), .int 0, .int (-1), .ref (ma 4), .int 0, .int 0, .int 0, .long 0, .int 0, .int 0, .int 0, .int 0, .long 0, .int 0, .int 0, .int 0, .ref (ma 17), .ref (ma 18), .ref (ma 19), .ref (ma 20), .ref (ma 21), .ref (ma 22), .ref (ma 23), .ref (ma 24), .ref (ma 25), .ref (ma 26), .ref (ma 27), .ref (ma 28), .ref (ma 29), .ref (ma 30), .ref (ma 31), .ref (ma 32), .ref (ma 33), .ref (ma 34), .ref (ma 35), .ref (ma 36), .ref (ma 37), .ref (ma 38), .ref (ma 39), .ref (ma 40), .ref (ma 41), .ref (ma 42), .ref (ma 43), .ref (ma 44), .ref (ma 45), .ref (ma 46), .ref (ma 47), .ref (ma 48), .int 0, .int 0, .int 0, .int 0, .int 0, .int 0, .int 0, .int 0, .int 0, .int 0, .ref (ma 59), .ref (ma 60), .int 0, .int 0, .int 0, .int 0, .int 0, .int 0, .ref (ma 67), .ref (ma 68), .ref (ma 69), .int 0, .int (-1), .int 0, .ref (ma 73)])), ((ma 17), .inl (cy 1, 2, .inl (fun _ => 0)))] U.heap ∧ va_K D vwCl (TY cy) U ∧ va_D (fun _ => True) [(hm, .inr (12, [.int 0, .ref (ma 1), .int 0, .int (-1), .ref (ma 4), .int 0, .int 0, .int 0, .long 0, .int 0, .int 0, .int 0, .int 0, .long 0, .int 0, .int 0, .int 0, .ref (ma 17), .ref (ma 18), .ref (ma 19), .ref (ma 20), .ref (ma 21), .ref (ma 22), .ref (ma 23), .ref (ma 24), .ref (ma 25), .ref (ma 26), .ref (ma 27), .ref (ma 28), .ref (ma 29), .ref (ma 30), .ref (ma 31), .ref (ma 32), .ref (ma 33), .ref (ma 34), .ref (ma 35), .ref (ma 36), .ref (ma 37), .ref (ma 38), .ref (ma 39), .ref (ma 40), .ref (ma 41), .ref (ma 42), .ref (ma 43), .ref (ma 44), .ref (ma 45), .ref (ma 46), .ref (ma 47), .ref (ma 48), .int 0, .int 0, .int 0, .int 0, .int 0, .int 0, .int 0, .int 0, .int 0, .int 0, .ref (ma 59), .ref (ma 60), .int 0, .int 0, .int 0, .int 0, .int 0, .int 0, .ref (ma 67), .ref (ma 68), .ref (ma 69), .int 0, .int (-1), .int 0, .ref (ma 73)])), ((ma 17), .inl (cy 1, 2, .inl (fun _ => 0)))])) (va_Qi (fun (r : Int32) (u : Unit) => r = -1) (fun (u : Unit) t => va_P D vwCl [] t.heap ∧ va_D (va_A [(hm, .inr (12, [.int 0, .ref (ma 1), .int 0, .int (-1), .ref (ma 4), .int 0, .int 0, .int 0, .long 0, .int 0, .int 0, .int 0, .int 0, .long 0, .int 0, .int 0, .int 0, .ref (ma 17), .ref (ma 18), .ref (ma 19), .ref (ma 20), .ref (ma 21), .ref (ma 22), .ref (ma 23), .ref (ma 24), .ref (ma 25), .ref (ma 26), .ref (ma 27), .ref (ma 28), .ref (ma 29), .ref (ma 30), .ref (ma 31), .ref (ma 32), .ref (ma 33), .ref (ma 34), .ref (ma 35), .ref (ma 36), .ref (ma 37), .ref (ma 38), .ref (ma 39), .ref (ma 40), .ref (ma 41), .ref (ma 42), .ref (ma 43), .ref (ma 44), .ref (ma 45), .ref (ma 46), .ref (ma 47), .ref (ma 48), .int 0, .int 0, .int 0, .int 0, .int 0, .int 0, .int 0, .int 0, .int 0, .int 0, .ref (ma 59), .ref (ma 60), .int 0, .int 0, .int 0, .int 0, .int 0, .int 0, .ref (ma 67), .ref (ma 68), .ref (ma 69), .int 0, .int (-1), .int 0, .ref (ma 73)])), ((ma 17), .inl (cy 1, 2, .inl (fun _ => 0)))] sz) []) (va_A [(hm, .inr (12, [.int 0, .ref (ma 1), .int 0, .int (-1), .ref (ma 4), .int 0, .int 0, .int 0, .long 0, .int 0, .int 0, .int 0, .int 0, .long 0, .int 0, .int 0, .int 0, .ref (ma 17), .ref (ma 18), .ref (ma 19), .ref (ma 20), .ref (ma 21), .ref (ma 22), .ref (ma 23), .ref (ma 24), .ref (ma 25), .ref (ma 26), .ref (ma 27), .ref (ma 28), .ref (ma 29), .ref (ma 30), .ref (ma 31), .ref (ma 32), .ref (ma 33), .ref (ma 34), .ref (ma 35), .ref (ma 36), .ref (ma 37), .ref (ma 38), .ref (ma 39), .ref (ma 40), .ref (ma 41), .ref (ma 42), .ref (ma 43), .ref (ma 44), .ref (ma 45), .ref (ma 46), .ref (ma 47), .ref (ma 48), .int 0, .int 0, .int 0, .int 0, .int 0, .int 0, .int 0, .int 0, .int 0, .int 0, .ref (ma 59), .ref (ma 60), .int 0, .int 0, .int 0, .int 0, .int 0, .int 0, .ref (ma 67), .ref (ma 68), .ref (ma 69), .int 0, .int (-1), .int 0, .ref (ma 73)])), ((ma 17), .inl (cy 1, 2, .inl (fun _ => 0)))] sz)) 0 0 (va_A [(hm, .inr (12, [.int 0, .ref (ma 1), .int 0, .int (-1), .ref (ma 4), .int 0, .int 0, .int 0, .long 0, .int 0, .int 0, .int 0, .int 0, .long 0, .int 0, .int 0, .int 0, .ref (ma 17), .ref (ma 18), .ref (ma 19), .ref (ma 20), .ref (ma 21), .ref (ma 22), .ref (ma 23), .ref (ma 24), .ref (ma 25), .ref (ma 26), .ref (ma 27), .ref (ma 28), .ref (ma 29), .ref (ma 30), .ref (ma 31), .ref (ma 32), .ref (ma 33), .ref (ma 34), .ref (ma 35), .ref (ma 36), .ref (ma 37), .ref (ma 38), .ref (ma 39), .ref (ma 40), .ref (ma 41), .ref (ma 42), .ref (ma 43), .ref (ma 44), .ref (ma 45), .ref (ma 46), .ref (ma 47), .ref (ma 48), .int 0, .int 0, .int 0, .int 0, .int 0, .int 0, .int 0, .int 0, .int 0, .int 0, .ref (ma 59), .ref (ma 60), .int 0, .int 0, .int 0, .int 0, .int 0, .int 0, .ref (ma 67), .ref (ma 68), .ref (ma 69), .int 0, .int (-1), .int 0, .ref (ma 73)])), ((ma 17), .inl (cy 1, 2, .inl (fun _ => 0)))] sz) := by
  refine Met.ofW (cc := cX12_start) (maxL := 2) (ret := (some .int)) (by decide) rfl ?_
  intro p e s m args below meth c s₁ B hml hv
  obtain ⟨rfl, hsz, hP, hK, hD0⟩ := hv
  have hx := B.exec
  have hb := B.bytes
  have hr := B.returns
  have hts := atoms_spec (ws := .code yX12_start cX12_start 2 (some .int) :: TB) B.pre
  have hT : ∀ w ∈ TB, w.before _ s = true := fun w h => hts w (List.mem_cons_of_mem _ h)
  have hown : s.vm.findClass "MakerStartsModel" = some m.cls := findClass_of_methodNamed B.named
  have hlocks := B.notSynchronized
  subst hsz
  have hD := hD0.self (sz := s.heap.size)
  generalize hAe : va_A [(hm, .inr (12, [.int 0, .ref (ma 1), .int 0, .int (-1), .ref (ma 4), .int 0, .int 0, .int 0, .long 0, .int 0, .int 0, .int 0, .int 0, .long 0, .int 0, .int 0, .int 0, .ref (ma 17), .ref (ma 18), .ref (ma 19), .ref (ma 20), .ref (ma 21), .ref (ma 22), .ref (ma 23), .ref (ma 24), .ref (ma 25), .ref (ma 26), .ref (ma 27), .ref (ma 28), .ref (ma 29), .ref (ma 30), .ref (ma 31), .ref (ma 32), .ref (ma 33), .ref (ma 34), .ref (ma 35), .ref (ma 36), .ref (ma 37), .ref (ma 38), .ref (ma 39), .ref (ma 40), .ref (ma 41), .ref (ma 42), .ref (ma 43), .ref (ma 44), .ref (ma 45), .ref (ma 46), .ref (ma 47), .ref (ma 48), .int 0, .int 0, .int 0, .int 0, .int 0, .int 0, .int 0, .int 0, .int 0, .int 0, .ref (ma 59), .ref (ma 60), .int 0, .int 0, .int 0, .int 0, .int 0, .int 0, .ref (ma 67), .ref (ma 68), .ref (ma 69), .int 0, .int (-1), .int 0, .ref (ma 73)])), ((ma 17), .inl (cy 1, 2, .inl (fun _ => 0)))] s.heap.size = A at hD  ⊢
  have hA : ∀ q : Nat, s.heap.size ≤ q → A q := fun q h => by rw [← hAe]; exact Or.inr h
  have hS : va_S A s.heap s.heap [] := va_S.rf
  have hP : va_P D vwCl [(hm, .inr (12, [.int 0, .ref (ma 1), .int 0, .int (-1), .ref (ma 4), .int 0, .int 0, .int 0, .long 0, .int 0, .int 0, .int 0, .int 0, .long 0, .int 0, .int 0, .int 0, .ref (ma 17), .ref (ma 18), .ref (ma 19), .ref (ma 20), .ref (ma 21), .ref (ma 22), .ref (ma 23), .ref (ma 24), .ref (ma 25), .ref (ma 26), .ref (ma 27), .ref (ma 28), .ref (ma 29), .ref (ma 30), .ref (ma 31), .ref (ma 32), .ref (ma 33), .ref (ma 34), .ref (ma 35), .ref (ma 36), .ref (ma 37), .ref (ma 38), .ref (ma 39), .ref (ma 40), .ref (ma 41), .ref (ma 42), .ref (ma 43), .ref (ma 44), .ref (ma 45), .ref (ma 46), .ref (ma 47), .ref (ma 48), .int 0, .int 0, .int 0, .int 0, .int 0, .int 0, .int 0, .int 0, .int 0, .int 0, .ref (ma 59), .ref (ma 60), .int 0, .int 0, .int 0, .int 0, .int 0, .int 0, .ref (ma 67), .ref (ma 68), .ref (ma 69), .int 0, .int (-1), .int 0, .ref (ma 73)])), ((ma 17), .inl (cy 1, 2, .inl (fun _ => 0)))] s.heap := hP
  have hl := lv_entry ([.ref hm, .int p0]) (n := 2) (Nat.le_of_ble_eq_true rfl)
  rw [lg_entry_eq]
  generalize (lg_sl ([.ref hm, .int p0]) ++ List.replicate (2 - (lg_sl ([.ref hm, .int p0])).length) Slot.unset).toArray = ls at hl ⊢
  have hl : lv_has ls 2 [(0, .ref hm), (1, .int p0)] := hl
  refine lv_aload_n hx hb dX12_start_0 rfl (lv_at hl 0 rfl) ?_
  refine lv_iconst (v := 0) hx hb dX12_start_1 (by decide) ?_
  refine va_put (D := D) (ci := 12) (v := .int 0) (ty := .int) (C := RX12) (T := TX12) (N := 74) hx hb hT i_TX12 tyX12 tyX12_ok nmX12 hown hK hP hD hS 0 rfl rfl 0 (by decide) (hT _ t_1715) (fun _ h9 => h9) rfl (by decide +kernel) rfl rfl (Nat.le_of_ble_eq_true rfl) dX12_start_2 (fun H locs hP hD hS => ?_)
  have hP : va_P D vwCl [(hm, .inr (12, [.int 0, .ref (ma 1), .int 0, .int (-1), .ref (ma 4), .int 0, .int 0, .int 0, .long 0, .int 0, .int 0, .int 0, .int 0, .long 0, .int 0, .int 0, .int 0, .ref (ma 17), .ref (ma 18), .ref (ma 19), .ref (ma 20), .ref (ma 21), .ref (ma 22), .ref (ma 23), .ref (ma 24), .ref (ma 25), .ref (ma 26), .ref (ma 27), .ref (ma 28), .ref (ma 29), .ref (ma 30), .ref (ma 31), .ref (ma 32), .ref (ma 33), .ref (ma 34), .ref (ma 35), .ref (ma 36), .ref (ma 37), .ref (ma 38), .ref (ma 39), .ref (ma 40), .ref (ma 41), .ref (ma 42), .ref (ma 43), .ref (ma 44), .ref (ma 45), .ref (ma 46), .ref (ma 47), .ref (ma 48), .int 0, .int 0, .int 0, .int 0, .int 0, .int 0, .int 0, .int 0, .int 0, .int 0, .ref (ma 59), .ref (ma 60), .int 0, .int 0, .int 0, .int 0, .int 0, .int 0, .ref (ma 67), .ref (ma 68), .ref (ma 69), .int 0, .int (-1), .int 0, .ref (ma 73)])), ((ma 17), .inl (cy 1, 2, .inl (fun _ => 0)))] H := hP
  have hD : va_D A [(hm, .inr (12, [.int 0, .ref (ma 1), .int 0, .int (-1), .ref (ma 4), .int 0, .int 0, .int 0, .long 0, .int 0, .int 0, .int 0, .int 0, .long 0, .int 0, .int 0, .int 0, .ref (ma 17), .ref (ma 18), .ref (ma 19), .ref (ma 20), .ref (ma 21), .ref (ma 22), .ref (ma 23), .ref (ma 24), .ref (ma 25), .ref (ma 26), .ref (ma 27), .ref (ma 28), .ref (ma 29), .ref (ma 30), .ref (ma 31), .ref (ma 32), .ref (ma 33), .ref (ma 34), .ref (ma 35), .ref (ma 36), .ref (ma 37), .ref (ma 38), .ref (ma 39), .ref (ma 40), .ref (ma 41), .ref (ma 42), .ref (ma 43), .ref (ma 44), .ref (ma 45), .ref (ma 46), .ref (ma 47), .ref (ma 48), .int 0, .int 0, .int 0, .int 0, .int 0, .int 0, .int 0, .int 0, .int 0, .int 0, .ref (ma 59), .ref (ma 60), .int 0, .int 0, .int 0, .int 0, .int 0, .int 0, .ref (ma 67), .ref (ma 68), .ref (ma 69), .int 0, .int (-1), .int 0, .ref (ma 73)])), ((ma 17), .inl (cy 1, 2, .inl (fun _ => 0)))] := hD
  refine lv_iload_n hx hb dX12_start_5 rfl (lv_at hl 1 rfl) ?_
  refine lv_if_lt (tgt := 22) hx hb dX12_start_6 (by decide) (fun c1 => ?_) (fun c1 => ?_)
  · refine lv_iconst (v := (-1)) hx hb dX12_start_22 (by decide) ?_
    have hP9 := hP.sub (ws' := []) [] rfl
    have hD9 := hD.sub (ws' := []) [] (by decide) rfl
    refine W.widen (k := 0) (n := 0) (Nat.le_of_ble_eq_true rfl) (Nat.le_of_ble_eq_true rfl) ?_
    exact W.iret (v := (-1)) hx hb hr (fun t ht hW => ⟨⟨(-1), (), rfl, rfl, by rw [ht]; exact hP9, hD9⟩, hS.F ht⟩) hS.2.2 dX12_start_23
  · refine lv_iload_n hx hb dX12_start_9 rfl (lv_at hl 1 rfl) ?_
    refine lv_aload_n hx hb dX12_start_10 rfl (lv_at hl 0 rfl) ?_
    refine va_get (D := D) (ci := 12) (v := .ref (ma 17)) (C := RX12) (T := TX12) (N := 74) hx hb hT i_TX12 hown hK hP 0 rfl rfl 17 (by decide) (hT _ t_1732) (fun _ h9 => h9) rfl dX12_start_11 ?_
    refine lv_aload_n hx hb dX12_start_14 rfl (lv_at hl 0 rfl) ?_
    refine va_get (D := D) (ci := 12) (v := .int 0) (C := RX12) (T := TX12) (N := 74) hx hb hT i_TX12 hown hK hP 0 rfl rfl 15 (by decide) (hT _ t_1730) (fun _ h9 => h9) rfl dX12_start_15 ?_
    refine va_iald hx hb hK hP 1 1 rfl rfl (vp_in_iff.mpr (by decide)) dX12_start_18 ?_
    refine lv_topi (fun z2 e3 => ?_)
    obtain rfl : z2 = 0 := e3.trans (by first | decide | rfl)
    refine lv_icmp_lt (tgt := 24) hx hb dX12_start_19 (by decide) (fun c9 => absurd c9 c1) (fun _ => ?_)
    refine lv_iconst (v := (-1)) hx hb dX12_start_22 (by decide) ?_
    have hP9 := hP.sub (ws' := []) [] rfl
    have hD9 := hD.sub (ws' := []) [] (by decide) rfl
    refine W.widen (k := 0) (n := 0) (Nat.le_of_ble_eq_true rfl) (Nat.le_of_ble_eq_true rfl) ?_
    exact W.iret (v := (-1)) hx hb hr (fun t ht hW => ⟨⟨(-1), (), rfl, rfl, by rw [ht]; exact hP9, hD9⟩, hS.F ht⟩) hS.2.2 dX12_start_23

set_option maxHeartbeats 4000000 in
set_option maxRecDepth 100000 in
theorem c_fails (l : Launch) (D : va_G) (cy : Nat → ClassId) (sz : Nat) (hx0 : Nat) (xa : Nat → Nat) (p0 : Int32) (p1 : Int32) : Met l yX11_fails (.code yX11_fails cX11_fails 5 (some .int) :: TB) ({ frames := 1, cells := 0, slots := 0, locals := 21 }) (va_Pc [.ref hx0, .int p0, .int p1] (fun U => U.heap.size = sz ∧ va_P D vwCl [(hx0, .inr (11, [.ref (xa 0), .int 0, .int (-1), .ref (xa 1), .ref (xa 2), .ref (xa 3), .ref (xa 4), .ref (xa 5)])), ((xa 1), .inr (7, [.ref (xa 6), .int 0, .ref (xa 7), .ref (xa 8), .int 0, .ref (xa 9), .int 0, .int 0, .int 0]))] U.heap ∧ va_K D vwCl (TY cy) U ∧ va_D (fun _ => True) [(hx0, .inr (11, [.ref (xa 0), .int 0, .int (-1), .ref (xa 1), .ref (xa 2), .ref (xa 3), .ref (xa 4), .ref (xa 5)])), ((xa 1), .inr (7, [.ref (xa 6), .int 0, .ref (xa 7), .ref (xa 8), .int 0, .ref (xa 9), .int 0, .int 0, .int 0]))])) (va_Qi (fun (r : Int32) (u : Unit) => r = -1) (fun (u : Unit) t => va_P D vwCl [] t.heap ∧ va_D (va_A [(hx0, .inr (11, [.ref (xa 0), .int 0, .int (-1), .ref (xa 1), .ref (xa 2), .ref (xa 3), .ref (xa 4), .ref (xa 5)])), ((xa 1), .inr (7, [.ref (xa 6), .int 0, .ref (xa 7), .ref (xa 8), .int 0, .ref (xa 9), .int 0, .int 0, .int 0]))] sz) []) (va_A [(hx0, .inr (11, [.ref (xa 0), .int 0, .int (-1), .ref (xa 1), .ref (xa 2), .ref (xa 3), .ref (xa 4), .ref (xa 5)])), ((xa 1), .inr (7, [.ref (xa 6), .int 0, .ref (xa 7), .ref (xa 8), .int 0, .ref (xa 9), .int 0, .int 0, .int 0]))] sz)) 0 0 (va_A [(hx0, .inr (11, [.ref (xa 0), .int 0, .int (-1), .ref (xa 1), .ref (xa 2), .ref (xa 3), .ref (xa 4), .ref (xa 5)])), ((xa 1), .inr (7, [.ref (xa 6), .int 0, .ref (xa 7), .ref (xa 8), .int 0, .ref (xa 9), .int 0, .int 0, .int 0]))] sz) := by
  refine Met.ofW (cc := cX11_fails) (maxL := 5) (ret := (some .int)) (by decide) rfl ?_
  intro p e s m args below meth c s₁ B hml hv
  obtain ⟨rfl, hsz, hP, hK, hD0⟩ := hv
  have hx := B.exec
  have hb := B.bytes
  have hr := B.returns
  have hts := atoms_spec (ws := .code yX11_fails cX11_fails 5 (some .int) :: TB) B.pre
  have hT : ∀ w ∈ TB, w.before _ s = true := fun w h => hts w (List.mem_cons_of_mem _ h)
  have hown : s.vm.findClass "MakerStarts" = some m.cls := findClass_of_methodNamed B.named
  have hlocks := B.notSynchronized
  subst hsz
  have hD := hD0.self (sz := s.heap.size)
  generalize hAe : va_A [(hx0, .inr (11, [.ref (xa 0), .int 0, .int (-1), .ref (xa 1), .ref (xa 2), .ref (xa 3), .ref (xa 4), .ref (xa 5)])), ((xa 1), .inr (7, [.ref (xa 6), .int 0, .ref (xa 7), .ref (xa 8), .int 0, .ref (xa 9), .int 0, .int 0, .int 0]))] s.heap.size = A at hD  ⊢
  have hA : ∀ q : Nat, s.heap.size ≤ q → A q := fun q h => by rw [← hAe]; exact Or.inr h
  have hS : va_S A s.heap s.heap [] := va_S.rf
  have hP : va_P D vwCl [(hx0, .inr (11, [.ref (xa 0), .int 0, .int (-1), .ref (xa 1), .ref (xa 2), .ref (xa 3), .ref (xa 4), .ref (xa 5)])), ((xa 1), .inr (7, [.ref (xa 6), .int 0, .ref (xa 7), .ref (xa 8), .int 0, .ref (xa 9), .int 0, .int 0, .int 0]))] s.heap := hP
  have hl := lv_entry ([.ref hx0, .int p0, .int p1]) (n := 5) (Nat.le_of_ble_eq_true rfl)
  rw [lg_entry_eq]
  generalize (lg_sl ([.ref hx0, .int p0, .int p1]) ++ List.replicate (5 - (lg_sl ([.ref hx0, .int p0, .int p1])).length) Slot.unset).toArray = ls at hl ⊢
  have hl : lv_has ls 5 [(0, .ref hx0), (1, .int p0), (2, .int p1)] := hl
  refine lv_aload_n hx hb dX11_fails_0 rfl (lv_at hl 0 rfl) ?_
  refine va_get (D := D) (ci := 11) (v := .ref (xa 1)) (C := RX11) (T := TX11) (N := 8) hx hb hT i_TX11 hown hK hP 0 rfl rfl 3 (by decide) (hT _ t_536) (fun _ h9 => h9) rfl dX11_fails_1 ?_
  refine lv_iload_n hx hb dX11_fails_4 rfl (lv_at hl 1 rfl) ?_
  have hPc := hP.sub (ws' := [((xa 1), .inr (7, [.ref (xa 6), .int 0, .ref (xa 7), .ref (xa 8), .int 0, .ref (xa 9), .int 0, .int 0, .int 0]))]) [1] rfl
  have hDc := hD.sub (ws' := [((xa 1), .inr (7, [.ref (xa 6), .int 0, .ref (xa 7), .ref (xa 8), .int 0, .ref (xa 9), .int 0, .int 0, .int 0]))]) [1] (by decide) rfl
  have hFc := va_free (wc := [((xa 1), .inr (7, [.ref (xa 6), .int 0, .ref (xa 7), .ref (xa 8), .int 0, .ref (xa 9), .int 0, .int 0, .int 0]))]) hD hS hA [1] rfl
  refine va_callq (va_runV (As := [.int p0]) (rest := []) ⟨hx, hb, hml, hown, hT⟩ (c_typeAt l D cy s.heap.size (xa 1) (xa 6) (xa 7) (xa 8) (xa 9) p0) (cwV 1 hT (gTBV t_1537 t_1263 t_1264 t_139 t_1265) rfl rfl rfl (by decide +kernel) ⟨Nat.le_of_ble_eq_true rfl, Nat.le_of_ble_eq_true rfl⟩) ⟨fun a U g mk q => by obtain ⟨q0, q1, qP, qK, qD⟩ := q; exact ⟨q0, q1, qP, va_K.moved (u := U) (U := U.calling g mk a) (Vm.Alike.refl U.vm) qK, qD⟩, va_recv hK hPc (ci := 7) (q0 := 0) rfl rfl, fun U hU hW => ⟨rfl, by rw [hU], by rw [hU]; exact hPc, va_K.moved hW.alike hK, hDc.weaken (fun _ _ _ _ => trivial)⟩⟩ rfl rfl hl.1 rfl (lv_room (Nat.le_of_ble_eq_true rfl)) dX11_fails_5 ⟨Nat.le_of_ble_eq_true rfl, Nat.le_of_ble_eq_true rfl⟩) hS (fun q _ h => hFc q h) hFc (fun r1 u t H1 locs ht hvm w2 hB hz1 hk1 hS => ?_)
  obtain ⟨hP1, hD1⟩ := hB
  rw [ht] at hP1
  obtain ⟨hP, hD⟩ := va_join (wr := [(hx0, .inr (11, [.ref (xa 0), .int 0, .int (-1), .ref (xa 1), .ref (xa 2), .ref (xa 3), .ref (xa 4), .ref (xa 5)]))]) (w1 := [((xa 1), .inr (7, [.ref (xa 6), .int 0, .ref (xa 7), .ref (xa 8), .int 0, .ref (xa 9), .int 0, .int 0, .int 0]))]) hP hD [1] [0] rfl rfl (by decide) (by decide) hk1 hFc hP1 hD1
  generalize H1 = H at hP hS ⊢
  have hP : va_P D vwCl [(hx0, .inr (11, [.ref (xa 0), .int 0, .int (-1), .ref (xa 1), .ref (xa 2), .ref (xa 3), .ref (xa 4), .ref (xa 5)])), ((xa 1), .inr (7, [.ref (xa 6), .int 0, .ref (xa 7), .ref (xa 8), .int 0, .ref (xa 9), .int 0, .int 0, .int 0]))] H := hP
  have hD : va_D A [(hx0, .inr (11, [.ref (xa 0), .int 0, .int (-1), .ref (xa 1), .ref (xa 2), .ref (xa 3), .ref (xa 4), .ref (xa 5)])), ((xa 1), .inr (7, [.ref (xa 6), .int 0, .ref (xa 7), .ref (xa 8), .int 0, .ref (xa 9), .int 0, .int 0, .int 0]))] := hD
  obtain rfl := w2
  refine lv_astore_nN (lv' := [(3, .null), (0, .ref hx0), (1, .int p0), (2, .int p1)]) hx hb dX11_fails_8 rfl hl (by decide) rfl (fun ls hl => ?_)
  refine lv_aload_nN hx hb dX11_fails_9 rfl (lv_at hl 0 rfl) ?_
  refine lv_ifnonnullN hx hb dX11_fails_10 ?_
  refine lv_null hx hb dX11_fails_13 ?_
  refine lv_goto (tgt := 22) hx hb dX11_fails_14 (by decide) ?_
  refine lv_astoreN (lv' := [(4, .null), (3, .null), (0, .ref hx0), (1, .int p0), (2, .int p1)]) hx hb dX11_fails_22 hl (by decide) rfl (fun ls hl => ?_)
  refine lv_aloadN hx hb dX11_fails_24 (lv_at hl 0 rfl) ?_
  refine lv_ifnonnullN hx hb dX11_fails_26 ?_
  refine lv_iconst (v := (-1)) hx hb dX11_fails_29 (by decide) ?_
  refine lv_goto (tgt := 41) hx hb dX11_fails_30 (by decide) ?_
  have hP9 := hP.sub (ws' := []) [] rfl
  have hD9 := hD.sub (ws' := []) [] (by decide) rfl
  refine W.widen (k := 0) (n := 0) (Nat.le_of_ble_eq_true rfl) (Nat.le_of_ble_eq_true rfl) ?_
  exact W.iret (v := (-1)) hx hb hr (fun t ht hW => ⟨⟨(-1), (), rfl, rfl, by rw [ht]; exact hP9, hD9⟩, hS.F ht⟩) hS.2.2 dX11_fails_41

set_option maxHeartbeats 4000000 in
set_option maxRecDepth 100000 in
theorem m_fails (l : Launch) (D : va_G) (cy : Nat → ClassId) (sz : Nat) (hm : Nat) (ma : Nat → Nat) (p0 : Int32) (p1 : Int32) : Met l yX12_fails (.code yX12_fails cX12_fails 4 (some .int) :: TB) ({ frames := 0, cells := 0, slots := 0, locals := 0 }) (va_Pc [.ref hm, .int p0, .int p1] (fun U => U.heap.size = sz ∧ va_P D vwCl [(hm, .inr (12, [.int 0, .ref (ma 1), .int 0, .int (-1), .ref (ma 4), .int 0, .int 0, .int 0, .long 0, .int 0, .int 0, .int 0, .int 0, .long 0, .int 0, .int 0, .int 0, .ref (ma 17), .ref (ma 18), .ref (ma 19), .ref (ma 20), .ref (ma 21), .ref (ma 22), .ref (ma 23), .ref (ma 24), .ref (ma 25), .ref (ma 26), .ref (ma 27), .ref (ma 28), .ref (ma 29), .ref (ma 30), .ref (ma 31), .ref (ma 32), .ref (ma 33), .ref (ma 34), .ref (ma 35), .ref (ma 36), .ref (ma 37), .ref (ma 38), .ref (ma 39), .ref (ma 40), .ref (ma 41), .ref (ma 42), .ref (ma 43), .ref (ma 44), .ref (ma 45), .ref (ma 46), .ref (ma 47), .ref (ma 48), .int 0, .int 0, .int 0, .int 0, .int 0, .int 0, .int 0, .int 0, .int 0, .int 0, .ref (ma 59), .ref (ma 60), .int 0, .int 0, .int 0, .int 0, .int 0, .int 0, .ref (ma 67), .ref (ma 68), .ref (ma 69), .int 0, .int (-1), .int 0, .ref (ma 73)])), ((ma 17), .inl (cy 1, 2, .inl (fun _ => 0)))] U.heap ∧ va_K D vwCl (TY cy) U ∧ va_D (fun _ => True) [(hm, .inr (12, [.int 0, .ref (ma 1), .int 0, .int (-1), .ref (ma 4), .int 0, .int 0, .int 0, .long 0, .int 0, .int 0, .int 0, .int 0, .long 0, .int 0, .int 0, .int 0, .ref (ma 17), .ref (ma 18), .ref (ma 19), .ref (ma 20), .ref (ma 21), .ref (ma 22), .ref (ma 23), .ref (ma 24), .ref (ma 25), .ref (ma 26), .ref (ma 27), .ref (ma 28), .ref (ma 29), .ref (ma 30), .ref (ma 31), .ref (ma 32), .ref (ma 33), .ref (ma 34), .ref (ma 35), .ref (ma 36), .ref (ma 37), .ref (ma 38), .ref (ma 39), .ref (ma 40), .ref (ma 41), .ref (ma 42), .ref (ma 43), .ref (ma 44), .ref (ma 45), .ref (ma 46), .ref (ma 47), .ref (ma 48), .int 0, .int 0, .int 0, .int 0, .int 0, .int 0, .int 0, .int 0, .int 0, .int 0, .ref (ma 59), .ref (ma 60), .int 0, .int 0, .int 0, .int 0, .int 0, .int 0, .ref (ma 67), .ref (ma 68), .ref (ma 69), .int 0, .int (-1), .int 0, .ref (ma 73)])), ((ma 17), .inl (cy 1, 2, .inl (fun _ => 0)))])) (va_Qi (fun (r : Int32) (u : Unit) => r = -1) (fun (u : Unit) t => va_P D vwCl [] t.heap ∧ va_D (va_A [(hm, .inr (12, [.int 0, .ref (ma 1), .int 0, .int (-1), .ref (ma 4), .int 0, .int 0, .int 0, .long 0, .int 0, .int 0, .int 0, .int 0, .long 0, .int 0, .int 0, .int 0, .ref (ma 17), .ref (ma 18), .ref (ma 19), .ref (ma 20), .ref (ma 21), .ref (ma 22), .ref (ma 23), .ref (ma 24), .ref (ma 25), .ref (ma 26), .ref (ma 27), .ref (ma 28), .ref (ma 29), .ref (ma 30), .ref (ma 31), .ref (ma 32), .ref (ma 33), .ref (ma 34), .ref (ma 35), .ref (ma 36), .ref (ma 37), .ref (ma 38), .ref (ma 39), .ref (ma 40), .ref (ma 41), .ref (ma 42), .ref (ma 43), .ref (ma 44), .ref (ma 45), .ref (ma 46), .ref (ma 47), .ref (ma 48), .int 0, .int 0, .int 0, .int 0, .int 0, .int 0, .int 0, .int 0, .int 0, .int 0, .ref (ma 59), .ref (ma 60), .int 0, .int 0, .int 0, .int 0, .int 0, .int 0, .ref (ma 67), .ref (ma 68), .ref (ma 69), .int 0, .int (-1), .int 0, .ref (ma 73)])), ((ma 17), .inl (cy 1, 2, .inl (fun _ => 0)))] sz) []) (va_A [(hm, .inr (12, [.int 0, .ref (ma 1), .int 0, .int (-1), .ref (ma 4), .int 0, .int 0, .int 0, .long 0, .int 0, .int 0, .int 0, .int 0, .long 0, .int 0, .int 0, .int 0, .ref (ma 17), .ref (ma 18), .ref (ma 19), .ref (ma 20), .ref (ma 21), .ref (ma 22), .ref (ma 23), .ref (ma 24), .ref (ma 25), .ref (ma 26), .ref (ma 27), .ref (ma 28), .ref (ma 29), .ref (ma 30), .ref (ma 31), .ref (ma 32), .ref (ma 33), .ref (ma 34), .ref (ma 35), .ref (ma 36), .ref (ma 37), .ref (ma 38), .ref (ma 39), .ref (ma 40), .ref (ma 41), .ref (ma 42), .ref (ma 43), .ref (ma 44), .ref (ma 45), .ref (ma 46), .ref (ma 47), .ref (ma 48), .int 0, .int 0, .int 0, .int 0, .int 0, .int 0, .int 0, .int 0, .int 0, .int 0, .ref (ma 59), .ref (ma 60), .int 0, .int 0, .int 0, .int 0, .int 0, .int 0, .ref (ma 67), .ref (ma 68), .ref (ma 69), .int 0, .int (-1), .int 0, .ref (ma 73)])), ((ma 17), .inl (cy 1, 2, .inl (fun _ => 0)))] sz)) 0 0 (va_A [(hm, .inr (12, [.int 0, .ref (ma 1), .int 0, .int (-1), .ref (ma 4), .int 0, .int 0, .int 0, .long 0, .int 0, .int 0, .int 0, .int 0, .long 0, .int 0, .int 0, .int 0, .ref (ma 17), .ref (ma 18), .ref (ma 19), .ref (ma 20), .ref (ma 21), .ref (ma 22), .ref (ma 23), .ref (ma 24), .ref (ma 25), .ref (ma 26), .ref (ma 27), .ref (ma 28), .ref (ma 29), .ref (ma 30), .ref (ma 31), .ref (ma 32), .ref (ma 33), .ref (ma 34), .ref (ma 35), .ref (ma 36), .ref (ma 37), .ref (ma 38), .ref (ma 39), .ref (ma 40), .ref (ma 41), .ref (ma 42), .ref (ma 43), .ref (ma 44), .ref (ma 45), .ref (ma 46), .ref (ma 47), .ref (ma 48), .int 0, .int 0, .int 0, .int 0, .int 0, .int 0, .int 0, .int 0, .int 0, .int 0, .ref (ma 59), .ref (ma 60), .int 0, .int 0, .int 0, .int 0, .int 0, .int 0, .ref (ma 67), .ref (ma 68), .ref (ma 69), .int 0, .int (-1), .int 0, .ref (ma 73)])), ((ma 17), .inl (cy 1, 2, .inl (fun _ => 0)))] sz) := by
  refine Met.ofW (cc := cX12_fails) (maxL := 4) (ret := (some .int)) (by decide) rfl ?_
  intro p e s m args below meth c s₁ B hml hv
  obtain ⟨rfl, hsz, hP, hK, hD0⟩ := hv
  have hx := B.exec
  have hb := B.bytes
  have hr := B.returns
  have hts := atoms_spec (ws := .code yX12_fails cX12_fails 4 (some .int) :: TB) B.pre
  have hT : ∀ w ∈ TB, w.before _ s = true := fun w h => hts w (List.mem_cons_of_mem _ h)
  have hown : s.vm.findClass "MakerStartsModel" = some m.cls := findClass_of_methodNamed B.named
  have hlocks := B.notSynchronized
  subst hsz
  have hD := hD0.self (sz := s.heap.size)
  generalize hAe : va_A [(hm, .inr (12, [.int 0, .ref (ma 1), .int 0, .int (-1), .ref (ma 4), .int 0, .int 0, .int 0, .long 0, .int 0, .int 0, .int 0, .int 0, .long 0, .int 0, .int 0, .int 0, .ref (ma 17), .ref (ma 18), .ref (ma 19), .ref (ma 20), .ref (ma 21), .ref (ma 22), .ref (ma 23), .ref (ma 24), .ref (ma 25), .ref (ma 26), .ref (ma 27), .ref (ma 28), .ref (ma 29), .ref (ma 30), .ref (ma 31), .ref (ma 32), .ref (ma 33), .ref (ma 34), .ref (ma 35), .ref (ma 36), .ref (ma 37), .ref (ma 38), .ref (ma 39), .ref (ma 40), .ref (ma 41), .ref (ma 42), .ref (ma 43), .ref (ma 44), .ref (ma 45), .ref (ma 46), .ref (ma 47), .ref (ma 48), .int 0, .int 0, .int 0, .int 0, .int 0, .int 0, .int 0, .int 0, .int 0, .int 0, .ref (ma 59), .ref (ma 60), .int 0, .int 0, .int 0, .int 0, .int 0, .int 0, .ref (ma 67), .ref (ma 68), .ref (ma 69), .int 0, .int (-1), .int 0, .ref (ma 73)])), ((ma 17), .inl (cy 1, 2, .inl (fun _ => 0)))] s.heap.size = A at hD  ⊢
  have hA : ∀ q : Nat, s.heap.size ≤ q → A q := fun q h => by rw [← hAe]; exact Or.inr h
  have hS : va_S A s.heap s.heap [] := va_S.rf
  have hP : va_P D vwCl [(hm, .inr (12, [.int 0, .ref (ma 1), .int 0, .int (-1), .ref (ma 4), .int 0, .int 0, .int 0, .long 0, .int 0, .int 0, .int 0, .int 0, .long 0, .int 0, .int 0, .int 0, .ref (ma 17), .ref (ma 18), .ref (ma 19), .ref (ma 20), .ref (ma 21), .ref (ma 22), .ref (ma 23), .ref (ma 24), .ref (ma 25), .ref (ma 26), .ref (ma 27), .ref (ma 28), .ref (ma 29), .ref (ma 30), .ref (ma 31), .ref (ma 32), .ref (ma 33), .ref (ma 34), .ref (ma 35), .ref (ma 36), .ref (ma 37), .ref (ma 38), .ref (ma 39), .ref (ma 40), .ref (ma 41), .ref (ma 42), .ref (ma 43), .ref (ma 44), .ref (ma 45), .ref (ma 46), .ref (ma 47), .ref (ma 48), .int 0, .int 0, .int 0, .int 0, .int 0, .int 0, .int 0, .int 0, .int 0, .int 0, .ref (ma 59), .ref (ma 60), .int 0, .int 0, .int 0, .int 0, .int 0, .int 0, .ref (ma 67), .ref (ma 68), .ref (ma 69), .int 0, .int (-1), .int 0, .ref (ma 73)])), ((ma 17), .inl (cy 1, 2, .inl (fun _ => 0)))] s.heap := hP
  have hl := lv_entry ([.ref hm, .int p0, .int p1]) (n := 4) (Nat.le_of_ble_eq_true rfl)
  rw [lg_entry_eq]
  generalize (lg_sl ([.ref hm, .int p0, .int p1]) ++ List.replicate (4 - (lg_sl ([.ref hm, .int p0, .int p1])).length) Slot.unset).toArray = ls at hl ⊢
  have hl : lv_has ls 4 [(0, .ref hm), (1, .int p0), (2, .int p1)] := hl
  refine lv_aload_n hx hb dX12_fails_0 rfl (lv_at hl 0 rfl) ?_
  refine lv_iconst (v := 0) hx hb dX12_fails_1 (by decide) ?_
  refine va_put (D := D) (ci := 12) (v := .int 0) (ty := .int) (C := RX12) (T := TX12) (N := 74) hx hb hT i_TX12 tyX12 tyX12_ok nmX12 hown hK hP hD hS 0 rfl rfl 0 (by decide) (hT _ t_1715) (fun _ h9 => h9) rfl (by decide +kernel) rfl rfl (Nat.le_of_ble_eq_true rfl) dX12_fails_2 (fun H locs hP hD hS => ?_)
  have hP : va_P D vwCl [(hm, .inr (12, [.int 0, .ref (ma 1), .int 0, .int (-1), .ref (ma 4), .int 0, .int 0, .int 0, .long 0, .int 0, .int 0, .int 0, .int 0, .long 0, .int 0, .int 0, .int 0, .ref (ma 17), .ref (ma 18), .ref (ma 19), .ref (ma 20), .ref (ma 21), .ref (ma 22), .ref (ma 23), .ref (ma 24), .ref (ma 25), .ref (ma 26), .ref (ma 27), .ref (ma 28), .ref (ma 29), .ref (ma 30), .ref (ma 31), .ref (ma 32), .ref (ma 33), .ref (ma 34), .ref (ma 35), .ref (ma 36), .ref (ma 37), .ref (ma 38), .ref (ma 39), .ref (ma 40), .ref (ma 41), .ref (ma 42), .ref (ma 43), .ref (ma 44), .ref (ma 45), .ref (ma 46), .ref (ma 47), .ref (ma 48), .int 0, .int 0, .int 0, .int 0, .int 0, .int 0, .int 0, .int 0, .int 0, .int 0, .ref (ma 59), .ref (ma 60), .int 0, .int 0, .int 0, .int 0, .int 0, .int 0, .ref (ma 67), .ref (ma 68), .ref (ma 69), .int 0, .int (-1), .int 0, .ref (ma 73)])), ((ma 17), .inl (cy 1, 2, .inl (fun _ => 0)))] H := hP
  have hD : va_D A [(hm, .inr (12, [.int 0, .ref (ma 1), .int 0, .int (-1), .ref (ma 4), .int 0, .int 0, .int 0, .long 0, .int 0, .int 0, .int 0, .int 0, .long 0, .int 0, .int 0, .int 0, .ref (ma 17), .ref (ma 18), .ref (ma 19), .ref (ma 20), .ref (ma 21), .ref (ma 22), .ref (ma 23), .ref (ma 24), .ref (ma 25), .ref (ma 26), .ref (ma 27), .ref (ma 28), .ref (ma 29), .ref (ma 30), .ref (ma 31), .ref (ma 32), .ref (ma 33), .ref (ma 34), .ref (ma 35), .ref (ma 36), .ref (ma 37), .ref (ma 38), .ref (ma 39), .ref (ma 40), .ref (ma 41), .ref (ma 42), .ref (ma 43), .ref (ma 44), .ref (ma 45), .ref (ma 46), .ref (ma 47), .ref (ma 48), .int 0, .int 0, .int 0, .int 0, .int 0, .int 0, .int 0, .int 0, .int 0, .int 0, .ref (ma 59), .ref (ma 60), .int 0, .int 0, .int 0, .int 0, .int 0, .int 0, .ref (ma 67), .ref (ma 68), .ref (ma 69), .int 0, .int (-1), .int 0, .ref (ma 73)])), ((ma 17), .inl (cy 1, 2, .inl (fun _ => 0)))] := hD
  refine lv_iload_n hx hb dX12_fails_5 rfl (lv_at hl 1 rfl) ?_
  refine lv_if_lt (tgt := 31) hx hb dX12_fails_6 (by decide) (fun c1 => ?_) (fun c1 => ?_)
  · refine lv_iconst (v := (-1)) hx hb dX12_fails_31 (by decide) ?_
    have hP9 := hP.sub (ws' := []) [] rfl
    have hD9 := hD.sub (ws' := []) [] (by decide) rfl
    refine W.widen (k := 0) (n := 0) (Nat.le_of_ble_eq_true rfl) (Nat.le_of_ble_eq_true rfl) ?_
    exact W.iret (v := (-1)) hx hb hr (fun t ht hW => ⟨⟨(-1), (), rfl, rfl, by rw [ht]; exact hP9, hD9⟩, hS.F ht⟩) hS.2.2 dX12_fails_32
  · refine lv_iload_n hx hb dX12_fails_9 rfl (lv_at hl 1 rfl) ?_
    refine lv_aload_n hx hb dX12_fails_10 rfl (lv_at hl 0 rfl) ?_
    refine va_get (D := D) (ci := 12) (v := .ref (ma 17)) (C := RX12) (T := TX12) (N := 74) hx hb hT i_TX12 hown hK hP 0 rfl rfl 17 (by decide) (hT _ t_1732) (fun _ h9 => h9) rfl dX12_fails_11 ?_
    refine lv_aload_n hx hb dX12_fails_14 rfl (lv_at hl 0 rfl) ?_
    refine va_get (D := D) (ci := 12) (v := .int 0) (C := RX12) (T := TX12) (N := 74) hx hb hT i_TX12 hown hK hP 0 rfl rfl 15 (by decide) (hT _ t_1730) (fun _ h9 => h9) rfl dX12_fails_15 ?_
    refine va_iald hx hb hK hP 1 1 rfl rfl (vp_in_iff.mpr (by decide)) dX12_fails_18 ?_
    refine lv_topi (fun z2 e3 => ?_)
    obtain rfl : z2 = 0 := e3.trans (by first | decide | rfl)
    refine lv_icmp_ge (tgt := 31) hx hb dX12_fails_19 (by decide) (fun _ => ?_) (fun c9 => absurd (Int32.not_lt.mp c1) c9)
    refine lv_iconst (v := (-1)) hx hb dX12_fails_31 (by decide) ?_
    have hP9 := hP.sub (ws' := []) [] rfl
    have hD9 := hD.sub (ws' := []) [] (by decide) rfl
    refine W.widen (k := 0) (n := 0) (Nat.le_of_ble_eq_true rfl) (Nat.le_of_ble_eq_true rfl) ?_
    exact W.iret (v := (-1)) hx hb hr (fun t ht hW => ⟨⟨(-1), (), rfl, rfl, by rw [ht]; exact hP9, hD9⟩, hS.F ht⟩) hS.2.2 dX12_fails_32
end
section
theorem t_533 : (Jvm.Cond.fieldLink "MakerStarts" (9 : Nat) "MakerStarts" "tape" "[B") ∈ TB := inTB 533 (by decide +kernel) (by decide +kernel)
theorem t_1716 : (Jvm.Cond.fieldLink "MakerStartsModel" (7 : Nat) "MakerStartsModel" "tape" "[B") ∈ TB := inTB 1716 (by decide +kernel) (by decide +kernel)
theorem dX11_feed_0 : decode cX11_feed 0 = .ok (.iload_n 3, 1) := by decide +kernel
theorem dX11_feed_1 : decode cX11_feed 1 = .ok (.iconst 1, 1) := by decide +kernel
theorem dX11_feed_2 : decode cX11_feed 2 = .ok (.if_icmp .lt 9, 3) := by decide +kernel
theorem dX11_feed_5 : decode cX11_feed 5 = .ok (.iload_n 3, 1) := by decide +kernel
theorem dX11_feed_6 : decode cX11_feed 6 = .ok (.bipush 8, 2) := by decide +kernel
theorem dX11_feed_8 : decode cX11_feed 8 = .ok (.if_icmp .le 6, 3) := by decide +kernel
theorem dX11_feed_11 : decode cX11_feed 11 = .ok (.bipush (-2), 2) := by decide +kernel
theorem dX11_feed_13 : decode cX11_feed 13 = .ok (.ireturn, 1) := by decide +kernel
theorem dX11_feed_14 : decode cX11_feed 14 = .ok (.aload_n 0, 1) := by decide +kernel
theorem dX11_feed_15 : decode cX11_feed 15 = .ok (.getfield 13, 3) := by decide +kernel
theorem dX11_feed_18 : decode cX11_feed 18 = .ok (.iload_n 3, 1) := by decide +kernel
theorem dX11_feed_19 : decode cX11_feed 19 = .ok (.iadd, 1) := by decide +kernel
theorem dX11_feed_20 : decode cX11_feed 20 = .ok (.sipush 1600, 3) := by decide +kernel
theorem dX11_feed_23 : decode cX11_feed 23 = .ok (.if_icmp .le 6, 3) := by decide +kernel
theorem dX11_feed_29 : decode cX11_feed 29 = .ok (.iload_n 3, 1) := by decide +kernel
theorem dX11_feed_30 : decode cX11_feed 30 = .ok (.iconst 1, 1) := by decide +kernel
theorem dX11_feed_31 : decode cX11_feed 31 = .ok (.isub, 1) := by decide +kernel
theorem dX11_feed_32 : decode cX11_feed 32 = .ok (.istore 4, 2) := by decide +kernel
theorem dX11_feed_34 : decode cX11_feed 34 = .ok (.iload 4, 2) := by decide +kernel
theorem dX11_feed_36 : decode cX11_feed 36 = .ok (.ifCond .lt 37, 3) := by decide +kernel
theorem dX11_feed_39 : decode cX11_feed 39 = .ok (.aload_n 0, 1) := by decide +kernel
theorem dX11_feed_40 : decode cX11_feed 40 = .ok (.getfield 9, 3) := by decide +kernel
theorem dX11_feed_43 : decode cX11_feed 43 = .ok (.aload_n 0, 1) := by decide +kernel
theorem dX11_feed_44 : decode cX11_feed 44 = .ok (.getfield 13, 3) := by decide +kernel
theorem dX11_feed_47 : decode cX11_feed 47 = .ok (.lload_n 1, 1) := by decide +kernel
theorem dX11_feed_48 : decode cX11_feed 48 = .ok (.bipush 8, 2) := by decide +kernel
theorem dX11_feed_50 : decode cX11_feed 50 = .ok (.iload 4, 2) := by decide +kernel
theorem dX11_feed_52 : decode cX11_feed 52 = .ok (.imul, 1) := by decide +kernel
theorem dX11_feed_53 : decode cX11_feed 53 = .ok (.lushr, 1) := by decide +kernel
theorem dX11_feed_54 : decode cX11_feed 54 = .ok (.l2i, 1) := by decide +kernel
theorem dX11_feed_55 : decode cX11_feed 55 = .ok (.i2b, 1) := by decide +kernel
theorem dX11_feed_56 : decode cX11_feed 56 = .ok (.bastore, 1) := by decide +kernel
theorem dX11_feed_57 : decode cX11_feed 57 = .ok (.aload_n 0, 1) := by decide +kernel
theorem dX11_feed_58 : decode cX11_feed 58 = .ok (.dup, 1) := by decide +kernel
theorem dX11_feed_59 : decode cX11_feed 59 = .ok (.getfield 13, 3) := by decide +kernel
theorem dX11_feed_62 : decode cX11_feed 62 = .ok (.iconst 1, 1) := by decide +kernel
theorem dX11_feed_63 : decode cX11_feed 63 = .ok (.iadd, 1) := by decide +kernel
theorem dX11_feed_64 : decode cX11_feed 64 = .ok (.putfield 13, 3) := by decide +kernel
theorem dX11_feed_67 : decode cX11_feed 67 = .ok (.iinc 4 (-1), 3) := by decide +kernel
theorem dX11_feed_70 : decode cX11_feed 70 = .ok (.goto (-36), 3) := by decide +kernel
theorem dX11_feed_73 : decode cX11_feed 73 = .ok (.aload_n 0, 1) := by decide +kernel
theorem dX11_feed_74 : decode cX11_feed 74 = .ok (.getfield 13, 3) := by decide +kernel
theorem dX11_feed_77 : decode cX11_feed 77 = .ok (.ireturn, 1) := by decide +kernel
theorem dX12_feed_0 : decode cX12_feed 0 = .ok (.aload_n 0, 1) := by decide +kernel
theorem dX12_feed_1 : decode cX12_feed 1 = .ok (.iconst 0, 1) := by decide +kernel
theorem dX12_feed_2 : decode cX12_feed 2 = .ok (.putfield 177, 3) := by decide +kernel
theorem dX12_feed_5 : decode cX12_feed 5 = .ok (.iload_n 3, 1) := by decide +kernel
theorem dX12_feed_6 : decode cX12_feed 6 = .ok (.iconst 1, 1) := by decide +kernel
theorem dX12_feed_7 : decode cX12_feed 7 = .ok (.if_icmp .lt 9, 3) := by decide +kernel
theorem dX12_feed_10 : decode cX12_feed 10 = .ok (.iload_n 3, 1) := by decide +kernel
theorem dX12_feed_11 : decode cX12_feed 11 = .ok (.bipush 8, 2) := by decide +kernel
theorem dX12_feed_13 : decode cX12_feed 13 = .ok (.if_icmp .le 6, 3) := by decide +kernel
theorem dX12_feed_16 : decode cX12_feed 16 = .ok (.bipush (-2), 2) := by decide +kernel
theorem dX12_feed_18 : decode cX12_feed 18 = .ok (.ireturn, 1) := by decide +kernel
theorem dX12_feed_19 : decode cX12_feed 19 = .ok (.aload_n 0, 1) := by decide +kernel
theorem dX12_feed_20 : decode cX12_feed 20 = .ok (.getfield 180, 3) := by decide +kernel
theorem dX12_feed_23 : decode cX12_feed 23 = .ok (.iload_n 3, 1) := by decide +kernel
theorem dX12_feed_24 : decode cX12_feed 24 = .ok (.iadd, 1) := by decide +kernel
theorem dX12_feed_25 : decode cX12_feed 25 = .ok (.sipush 1600, 3) := by decide +kernel
theorem dX12_feed_28 : decode cX12_feed 28 = .ok (.if_icmp .le 6, 3) := by decide +kernel
theorem dX12_feed_34 : decode cX12_feed 34 = .ok (.iload_n 3, 1) := by decide +kernel
theorem dX12_feed_35 : decode cX12_feed 35 = .ok (.iconst 1, 1) := by decide +kernel
theorem dX12_feed_36 : decode cX12_feed 36 = .ok (.isub, 1) := by decide +kernel
theorem dX12_feed_37 : decode cX12_feed 37 = .ok (.istore 4, 2) := by decide +kernel
theorem dX12_feed_39 : decode cX12_feed 39 = .ok (.iload 4, 2) := by decide +kernel
theorem dX12_feed_41 : decode cX12_feed 41 = .ok (.ifCond .lt 37, 3) := by decide +kernel
theorem dX12_feed_44 : decode cX12_feed 44 = .ok (.aload_n 0, 1) := by decide +kernel
theorem dX12_feed_45 : decode cX12_feed 45 = .ok (.getfield 7, 3) := by decide +kernel
theorem dX12_feed_48 : decode cX12_feed 48 = .ok (.aload_n 0, 1) := by decide +kernel
theorem dX12_feed_49 : decode cX12_feed 49 = .ok (.getfield 180, 3) := by decide +kernel
theorem dX12_feed_52 : decode cX12_feed 52 = .ok (.lload_n 1, 1) := by decide +kernel
theorem dX12_feed_53 : decode cX12_feed 53 = .ok (.bipush 8, 2) := by decide +kernel
theorem dX12_feed_55 : decode cX12_feed 55 = .ok (.iload 4, 2) := by decide +kernel
theorem dX12_feed_57 : decode cX12_feed 57 = .ok (.imul, 1) := by decide +kernel
theorem dX12_feed_58 : decode cX12_feed 58 = .ok (.lshr, 1) := by decide +kernel
theorem dX12_feed_59 : decode cX12_feed 59 = .ok (.l2i, 1) := by decide +kernel
theorem dX12_feed_60 : decode cX12_feed 60 = .ok (.i2b, 1) := by decide +kernel
theorem dX12_feed_61 : decode cX12_feed 61 = .ok (.bastore, 1) := by decide +kernel
theorem dX12_feed_62 : decode cX12_feed 62 = .ok (.aload_n 0, 1) := by decide +kernel
theorem dX12_feed_63 : decode cX12_feed 63 = .ok (.dup, 1) := by decide +kernel
theorem dX12_feed_64 : decode cX12_feed 64 = .ok (.getfield 180, 3) := by decide +kernel
theorem dX12_feed_67 : decode cX12_feed 67 = .ok (.iconst 1, 1) := by decide +kernel
theorem dX12_feed_68 : decode cX12_feed 68 = .ok (.iadd, 1) := by decide +kernel
theorem dX12_feed_69 : decode cX12_feed 69 = .ok (.putfield 180, 3) := by decide +kernel
theorem dX12_feed_72 : decode cX12_feed 72 = .ok (.iinc 4 (-1), 3) := by decide +kernel
theorem dX12_feed_75 : decode cX12_feed 75 = .ok (.goto (-36), 3) := by decide +kernel
theorem dX12_feed_78 : decode cX12_feed 78 = .ok (.aload_n 0, 1) := by decide +kernel
theorem dX12_feed_79 : decode cX12_feed 79 = .ok (.getfield 180, 3) := by decide +kernel
theorem dX12_feed_82 : decode cX12_feed 82 = .ok (.ireturn, 1) := by decide +kernel
def fd (x : Int32) : Int32 := if x < 1 then -2 else if 8 < x then -2 else x
theorem fd_n {x : Int32} (h : x < 0) : x < 1 := by
  have := Int32.lt_iff_toInt_lt.mp h
  apply Int32.lt_iff_toInt_lt.mpr
  have e0 : (0 : Int32).toInt = 0 := by decide
  have e1 : (1 : Int32).toInt = 1 := by decide
  omega
theorem fd_nv {x : Int32} (h : x < 0) : fd x = -2 := by unfold fd; rw [if_pos (fd_n h)]
theorem fd_b1 {x : Int32} (h : nI 9 ≤ x) : ¬ x < 1 := by
  intro h2
  have a := tb_big (n := 9) (by decide) h
  have b := Int32.lt_iff_toInt_lt.mp h2
  have e1 : (1 : Int32).toInt = 1 := by decide
  omega
theorem fd_b8 {x : Int32} (h : nI 9 ≤ x) : 8 < x := by
  have a := tb_big (n := 9) (by decide) h
  apply Int32.lt_iff_toInt_lt.mpr
  have e1 : (8 : Int32).toInt = 8 := by decide
  omega
theorem fd_bv {x : Int32} (h : nI 9 ≤ x) : fd x = -2 := by unfold fd; rw [if_neg (fd_b1 h), if_pos (fd_b8 h)]

set_option maxHeartbeats 4000000 in
set_option maxRecDepth 100000 in
theorem c_feed (l : Launch) (D : va_G) (cy : Nat → ClassId) (sz : Nat) (hx0 : Nat) (xa : Nat → Nat) (p0 : Int64) (p1 : Int32) : Met l yX11_feed (.code yX11_feed cX11_feed 5 (some .int) :: TB) ({ frames := 0, cells := 0, slots := 0, locals := 0 }) (va_Pc [.ref hx0, .long p0, .int p1] (fun U => U.heap.size = sz ∧ va_P D vwCl [(hx0, .inr (11, [.ref (xa 0), .int 0, .int (-1), .ref (xa 1), .ref (xa 2), .ref (xa 3), .ref (xa 4), .ref (xa 5)])), ((xa 0), .inl (cy 0, 1600, .inl (fun _ => 0)))] U.heap ∧ va_K D vwCl (TY cy) U ∧ va_D (fun _ => True) [(hx0, .inr (11, [.ref (xa 0), .int 0, .int (-1), .ref (xa 1), .ref (xa 2), .ref (xa 3), .ref (xa 4), .ref (xa 5)])), ((xa 0), .inl (cy 0, 1600, .inl (fun _ => 0)))])) (va_Qi (fun (r : Int32) (u : Unit) => r = fd p1) (fun (u : Unit) t => va_P D vwCl [] t.heap ∧ va_D (va_A [(hx0, .inr (11, [.ref (xa 0), .int 0, .int (-1), .ref (xa 1), .ref (xa 2), .ref (xa 3), .ref (xa 4), .ref (xa 5)])), ((xa 0), .inl (cy 0, 1600, .inl (fun _ => 0)))] sz) []) (va_A [(hx0, .inr (11, [.ref (xa 0), .int 0, .int (-1), .ref (xa 1), .ref (xa 2), .ref (xa 3), .ref (xa 4), .ref (xa 5)])), ((xa 0), .inl (cy 0, 1600, .inl (fun _ => 0)))] sz)) 0 0 (va_A [(hx0, .inr (11, [.ref (xa 0), .int 0, .int (-1), .ref (xa 1), .ref (xa 2), .ref (xa 3), .ref (xa 4), .ref (xa 5)])), ((xa 0), .inl (cy 0, 1600, .inl (fun _ => 0)))] sz) := by
  refine Met.ofW (cc := cX11_feed) (maxL := 5) (ret := (some .int)) (by decide) rfl ?_
  intro p e s m args below meth c s₁ B hml hv
  obtain ⟨rfl, hsz, hP, hK, hD0⟩ := hv
  have hx := B.exec
  have hb := B.bytes
  have hr := B.returns
  have hts := atoms_spec (ws := .code yX11_feed cX11_feed 5 (some .int) :: TB) B.pre
  have hT : ∀ w ∈ TB, w.before _ s = true := fun w h => hts w (List.mem_cons_of_mem _ h)
  have hown : s.vm.findClass "MakerStarts" = some m.cls := findClass_of_methodNamed B.named
  have hlocks := B.notSynchronized
  subst hsz
  have hD := hD0.self (sz := s.heap.size)
  generalize hAe : va_A [(hx0, .inr (11, [.ref (xa 0), .int 0, .int (-1), .ref (xa 1), .ref (xa 2), .ref (xa 3), .ref (xa 4), .ref (xa 5)])), ((xa 0), .inl (cy 0, 1600, .inl (fun _ => 0)))] s.heap.size = A at hD  ⊢
  have hA : ∀ q : Nat, s.heap.size ≤ q → A q := fun q h => by rw [← hAe]; exact Or.inr h
  have hS : va_S A s.heap s.heap [] := va_S.rf
  have hP : va_P D vwCl [(hx0, .inr (11, [.ref (xa 0), .int 0, .int (-1), .ref (xa 1), .ref (xa 2), .ref (xa 3), .ref (xa 4), .ref (xa 5)])), ((xa 0), .inl (cy 0, 1600, .inl (fun _ => 0)))] s.heap := hP
  have hl := lv_entry ([.ref hx0, .long p0, .int p1]) (n := 5) (Nat.le_of_ble_eq_true rfl)
  rw [lg_entry_eq]
  generalize (lg_sl ([.ref hx0, .long p0, .int p1]) ++ List.replicate (5 - (lg_sl ([.ref hx0, .long p0, .int p1])).length) Slot.unset).toArray = ls at hl ⊢
  have hl : lv_has ls 5 [(0, .ref hx0), (1, .long p0), (3, .int p1)] := hl
  rcases pk_ix p1 (n := 9) (by decide) with h9 | h9 | ⟨j9, hj9, rfl⟩
  · refine lv_iload_n hx hb dX11_feed_0 rfl (lv_at hl 2 rfl) ?_
    refine lv_iconst (v := 1) hx hb dX11_feed_1 (by decide) ?_
    refine lv_icmp_lt (tgt := 11) hx hb dX11_feed_2 (by decide) (fun _ => ?_) (fun c9 => absurd (fd_n h9) c9)
    refine lv_bipush (v := (-2)) hx hb dX11_feed_11 (by decide) ?_
    have hP9 := hP.sub (ws' := []) [] rfl
    have hD9 := hD.sub (ws' := []) [] (by decide) rfl
    refine W.widen (k := 0) (n := 0) (Nat.le_of_ble_eq_true rfl) (Nat.le_of_ble_eq_true rfl) ?_
    exact W.iret (v := (-2)) hx hb hr (fun t ht hW => ⟨⟨(-2), (), rfl, (fd_nv h9).symm, by rw [ht]; exact hP9, hD9⟩, hS.F ht⟩) hS.2.2 dX11_feed_13
  · refine lv_iload_n hx hb dX11_feed_0 rfl (lv_at hl 2 rfl) ?_
    refine lv_iconst (v := 1) hx hb dX11_feed_1 (by decide) ?_
    refine lv_icmp_lt (tgt := 11) hx hb dX11_feed_2 (by decide) (fun c9 => absurd c9 (fd_b1 h9)) (fun _ => ?_)
    refine lv_iload_n hx hb dX11_feed_5 rfl (lv_at hl 2 rfl) ?_
    refine lv_bipush (v := 8) hx hb dX11_feed_6 (by decide) ?_
    refine lv_icmp_le (tgt := 14) hx hb dX11_feed_8 (by decide) (fun c9 => absurd c9 (Int32.not_le.mpr (fd_b8 h9))) (fun _ => ?_)
    refine lv_bipush (v := (-2)) hx hb dX11_feed_11 (by decide) ?_
    have hP9 := hP.sub (ws' := []) [] rfl
    have hD9 := hD.sub (ws' := []) [] (by decide) rfl
    refine W.widen (k := 0) (n := 0) (Nat.le_of_ble_eq_true rfl) (Nat.le_of_ble_eq_true rfl) ?_
    exact W.iret (v := (-2)) hx hb hr (fun t ht hW => ⟨⟨(-2), (), rfl, (fd_bv h9).symm, by rw [ht]; exact hP9, hD9⟩, hS.F ht⟩) hS.2.2 dX11_feed_13
  · rcases (show j9 = 0 ∨ j9 = 1 ∨ j9 = 2 ∨ j9 = 3 ∨ j9 = 4 ∨ j9 = 5 ∨ j9 = 6 ∨ j9 = 7 ∨ j9 = 8 by omega) with rfl | rfl | rfl | rfl | rfl | rfl | rfl | rfl | rfl
    · refine lv_iload_n hx hb dX11_feed_0 rfl (lv_at hl 2 rfl) ?_
      refine lv_iconst (v := 1) hx hb dX11_feed_1 (by decide) ?_
      refine lv_icmp_lt (tgt := 11) hx hb dX11_feed_2 (by decide) (fun _ => ?_) (fun c9 => absurd (by decide) c9)
      refine lv_bipush (v := (-2)) hx hb dX11_feed_11 (by decide) ?_
      have hP9 := hP.sub (ws' := []) [] rfl
      have hD9 := hD.sub (ws' := []) [] (by decide) rfl
      refine W.widen (k := 0) (n := 0) (Nat.le_of_ble_eq_true rfl) (Nat.le_of_ble_eq_true rfl) ?_
      exact W.iret (v := (-2)) hx hb hr (fun t ht hW => ⟨⟨(-2), (), rfl, (by decide), by rw [ht]; exact hP9, hD9⟩, hS.F ht⟩) hS.2.2 dX11_feed_13
    · refine lv_iload_n hx hb dX11_feed_0 rfl (lv_at hl 2 rfl) ?_
      refine lv_iconst (v := 1) hx hb dX11_feed_1 (by decide) ?_
      refine lv_icmp_lt (tgt := 11) hx hb dX11_feed_2 (by decide) (fun c9 => absurd c9 (by decide)) (fun _ => ?_)
      refine lv_iload_n hx hb dX11_feed_5 rfl (lv_at hl 2 rfl) ?_
      refine lv_bipush (v := 8) hx hb dX11_feed_6 (by decide) ?_
      refine lv_icmp_le (tgt := 14) hx hb dX11_feed_8 (by decide) (fun _ => ?_) (fun c9 => absurd (by decide) c9)
      refine lv_aload_n hx hb dX11_feed_14 rfl (lv_at hl 0 rfl) ?_
      refine va_get (D := D) (ci := 11) (v := .int 0) (C := RX11) (T := TX11) (N := 8) hx hb hT i_TX11 hown hK hP 0 rfl rfl 1 (by decide) (hT _ t_534) (fun _ h9 => h9) rfl dX11_feed_15 ?_
      refine lv_iload_n hx hb dX11_feed_18 rfl (lv_at hl 2 rfl) ?_
      refine lv_iadd hx hb dX11_feed_19 ?_
      refine lv_topi (fun z1 e2 => ?_)
      obtain rfl : z1 = 1 := e2.trans (by first | decide | rfl)
      refine lv_sipush (v := 1600) hx hb dX11_feed_20 (by decide) ?_
      refine lv_icmp_le (tgt := 29) hx hb dX11_feed_23 (by decide) (fun _ => ?_) (fun c9 => absurd (by decide) c9)
      refine lv_iload_n hx hb dX11_feed_29 rfl (lv_at hl 2 rfl) ?_
      refine lv_iconst (v := 1) hx hb dX11_feed_30 (by decide) ?_
      refine lv_isub hx hb dX11_feed_31 ?_
      refine lv_topi (fun z3 e4 => ?_)
      obtain rfl : z3 = 0 := e4.trans (by first | decide | rfl)
      refine lv_istore (lv' := [(4, .int 0), (0, .ref hx0), (1, .long p0), (3, .int (nI 1))]) hx hb dX11_feed_32 hl (by decide) rfl (fun ls hl => ?_)
      refine lv_iload hx hb dX11_feed_34 (lv_at hl 0 rfl) ?_
      refine lv_if_lt (tgt := 73) hx hb dX11_feed_36 (by decide) (fun c9 => absurd c9 (by decide)) (fun _ => ?_)
      refine lv_aload_n hx hb dX11_feed_39 rfl (lv_at hl 1 rfl) ?_
      refine va_get (D := D) (ci := 11) (v := .ref (xa 0)) (C := RX11) (T := TX11) (N := 8) hx hb hT i_TX11 hown hK hP 0 rfl rfl 0 (by decide) (hT _ t_533) (fun _ h9 => h9) rfl dX11_feed_40 ?_
      refine lv_aload_n hx hb dX11_feed_43 rfl (lv_at hl 1 rfl) ?_
      refine va_get (D := D) (ci := 11) (v := .int 0) (C := RX11) (T := TX11) (N := 8) hx hb hT i_TX11 hown hK hP 0 rfl rfl 1 (by decide) (hT _ t_534) (fun _ h9 => h9) rfl dX11_feed_44 ?_
      refine lv_lload_n hx hb dX11_feed_47 rfl (lv_at hl 2 rfl) ?_
      refine lv_bipush (v := 8) hx hb dX11_feed_48 (by decide) ?_
      refine lv_iload hx hb dX11_feed_50 (lv_at hl 0 rfl) ?_
      refine lv_imul hx hb dX11_feed_52 ?_
      refine lv_topi (fun z5 e6 => ?_)
      obtain rfl : z5 = 0 := e6.trans (by first | decide | rfl)
      refine lv_lushr hx hb dX11_feed_53 rfl ?_
      refine lv_topl (fun z7 e8 => ?_)
      refine lv_l2i hx hb dX11_feed_54 rfl ?_
      refine lv_topi (fun z9 e10 => ?_)
      refine lv_i2b hx hb dX11_feed_55 rfl ?_
      refine lv_topi (fun z11 e12 => ?_)
      refine va_bast hx hb hK hP hD hS 1 0 rfl rfl (vp_in_iff.mpr (by decide)) dX11_feed_56 (fun H locs hP hD hS => ?_)
      have hP : va_P D vwCl [(hx0, .inr (11, [.ref (xa 0), .int 0, .int (-1), .ref (xa 1), .ref (xa 2), .ref (xa 3), .ref (xa 4), .ref (xa 5)])), ((xa 0), .inl (cy 0, 1600, .inl (upd (fun _ => 0) (0 : Int32).toNatClampNeg (vp_nar .byte z11))))] H := hP
      have hD : va_D A [(hx0, .inr (11, [.ref (xa 0), .int 0, .int (-1), .ref (xa 1), .ref (xa 2), .ref (xa 3), .ref (xa 4), .ref (xa 5)])), ((xa 0), .inl (cy 0, 1600, .inl (upd (fun _ => 0) (0 : Int32).toNatClampNeg (vp_nar .byte z11))))] := hD
      generalize hff13 : (upd (fun _ => 0) (0 : Int32).toNatClampNeg (vp_nar .byte z11)) = f13 at hP hD
      refine lv_aload_n hx hb dX11_feed_57 rfl (lv_at hl 1 rfl) ?_
      refine lv_dup hx hb dX11_feed_58 rfl ?_
      refine va_get (D := D) (ci := 11) (v := .int 0) (C := RX11) (T := TX11) (N := 8) hx hb hT i_TX11 hown hK hP 0 rfl rfl 1 (by decide) (hT _ t_534) (fun _ h9 => h9) rfl dX11_feed_59 ?_
      refine lv_iconst (v := 1) hx hb dX11_feed_62 (by decide) ?_
      refine lv_iadd hx hb dX11_feed_63 ?_
      refine lv_topi (fun z14 e15 => ?_)
      obtain rfl : z14 = 1 := e15.trans (by first | decide | rfl)
      refine va_put (D := D) (ci := 11) (v := .int 1) (ty := .int) (C := RX11) (T := TX11) (N := 8) hx hb hT i_TX11 tyX11 tyX11_ok nmX11 hown hK hP hD hS 0 rfl rfl 1 (by decide) (hT _ t_534) (fun _ h9 => h9) rfl (by decide +kernel) rfl rfl (Nat.le_of_ble_eq_true rfl) dX11_feed_64 (fun H locs hP hD hS => ?_)
      have hP : va_P D vwCl [(hx0, .inr (11, [.ref (xa 0), .int 1, .int (-1), .ref (xa 1), .ref (xa 2), .ref (xa 3), .ref (xa 4), .ref (xa 5)])), ((xa 0), .inl (cy 0, 1600, .inl f13))] H := hP
      have hD : va_D A [(hx0, .inr (11, [.ref (xa 0), .int 1, .int (-1), .ref (xa 1), .ref (xa 2), .ref (xa 3), .ref (xa 4), .ref (xa 5)])), ((xa 0), .inl (cy 0, 1600, .inl f13))] := hD
      refine lv_iinc (v := (-1)) (lv' := [(4, .int (-1)), (0, .ref hx0), (1, .long p0), (3, .int (nI 1))]) hx hb dX11_feed_67 hl (k := 0) rfl (by decide) (by decide) rfl (fun ls hl => ?_)
      refine lv_goto (tgt := 34) hx hb dX11_feed_70 (by decide) ?_
      refine lv_iload hx hb dX11_feed_34 (lv_at hl 0 rfl) ?_
      refine lv_if_lt (tgt := 73) hx hb dX11_feed_36 (by decide) (fun _ => ?_) (fun c9 => absurd (by decide) c9)
      refine lv_aload_n hx hb dX11_feed_73 rfl (lv_at hl 1 rfl) ?_
      refine va_get (D := D) (ci := 11) (v := .int 1) (C := RX11) (T := TX11) (N := 8) hx hb hT i_TX11 hown hK hP 0 rfl rfl 1 (by decide) (hT _ t_534) (fun _ h9 => h9) rfl dX11_feed_74 ?_
      have hP9 := hP.sub (ws' := []) [] rfl
      have hD9 := hD.sub (ws' := []) [] (by decide) rfl
      refine W.widen (k := 0) (n := 0) (Nat.le_of_ble_eq_true rfl) (Nat.le_of_ble_eq_true rfl) ?_
      exact W.iret (v := 1) hx hb hr (fun t ht hW => ⟨⟨1, (), rfl, (by decide), by rw [ht]; exact hP9, hD9⟩, hS.F ht⟩) hS.2.2 dX11_feed_77
    · refine lv_iload_n hx hb dX11_feed_0 rfl (lv_at hl 2 rfl) ?_
      refine lv_iconst (v := 1) hx hb dX11_feed_1 (by decide) ?_
      refine lv_icmp_lt (tgt := 11) hx hb dX11_feed_2 (by decide) (fun c9 => absurd c9 (by decide)) (fun _ => ?_)
      refine lv_iload_n hx hb dX11_feed_5 rfl (lv_at hl 2 rfl) ?_
      refine lv_bipush (v := 8) hx hb dX11_feed_6 (by decide) ?_
      refine lv_icmp_le (tgt := 14) hx hb dX11_feed_8 (by decide) (fun _ => ?_) (fun c9 => absurd (by decide) c9)
      refine lv_aload_n hx hb dX11_feed_14 rfl (lv_at hl 0 rfl) ?_
      refine va_get (D := D) (ci := 11) (v := .int 0) (C := RX11) (T := TX11) (N := 8) hx hb hT i_TX11 hown hK hP 0 rfl rfl 1 (by decide) (hT _ t_534) (fun _ h9 => h9) rfl dX11_feed_15 ?_
      refine lv_iload_n hx hb dX11_feed_18 rfl (lv_at hl 2 rfl) ?_
      refine lv_iadd hx hb dX11_feed_19 ?_
      refine lv_topi (fun z16 e17 => ?_)
      obtain rfl : z16 = 2 := e17.trans (by first | decide | rfl)
      refine lv_sipush (v := 1600) hx hb dX11_feed_20 (by decide) ?_
      refine lv_icmp_le (tgt := 29) hx hb dX11_feed_23 (by decide) (fun _ => ?_) (fun c9 => absurd (by decide) c9)
      refine lv_iload_n hx hb dX11_feed_29 rfl (lv_at hl 2 rfl) ?_
      refine lv_iconst (v := 1) hx hb dX11_feed_30 (by decide) ?_
      refine lv_isub hx hb dX11_feed_31 ?_
      refine lv_topi (fun z18 e19 => ?_)
      obtain rfl : z18 = 1 := e19.trans (by first | decide | rfl)
      refine lv_istore (lv' := [(4, .int 1), (0, .ref hx0), (1, .long p0), (3, .int (nI 2))]) hx hb dX11_feed_32 hl (by decide) rfl (fun ls hl => ?_)
      refine lv_iload hx hb dX11_feed_34 (lv_at hl 0 rfl) ?_
      refine lv_if_lt (tgt := 73) hx hb dX11_feed_36 (by decide) (fun c9 => absurd c9 (by decide)) (fun _ => ?_)
      refine lv_aload_n hx hb dX11_feed_39 rfl (lv_at hl 1 rfl) ?_
      refine va_get (D := D) (ci := 11) (v := .ref (xa 0)) (C := RX11) (T := TX11) (N := 8) hx hb hT i_TX11 hown hK hP 0 rfl rfl 0 (by decide) (hT _ t_533) (fun _ h9 => h9) rfl dX11_feed_40 ?_
      refine lv_aload_n hx hb dX11_feed_43 rfl (lv_at hl 1 rfl) ?_
      refine va_get (D := D) (ci := 11) (v := .int 0) (C := RX11) (T := TX11) (N := 8) hx hb hT i_TX11 hown hK hP 0 rfl rfl 1 (by decide) (hT _ t_534) (fun _ h9 => h9) rfl dX11_feed_44 ?_
      refine lv_lload_n hx hb dX11_feed_47 rfl (lv_at hl 2 rfl) ?_
      refine lv_bipush (v := 8) hx hb dX11_feed_48 (by decide) ?_
      refine lv_iload hx hb dX11_feed_50 (lv_at hl 0 rfl) ?_
      refine lv_imul hx hb dX11_feed_52 ?_
      refine lv_topi (fun z20 e21 => ?_)
      obtain rfl : z20 = 8 := e21.trans (by first | decide | rfl)
      refine lv_lushr hx hb dX11_feed_53 rfl ?_
      refine lv_topl (fun z22 e23 => ?_)
      refine lv_l2i hx hb dX11_feed_54 rfl ?_
      refine lv_topi (fun z24 e25 => ?_)
      refine lv_i2b hx hb dX11_feed_55 rfl ?_
      refine lv_topi (fun z26 e27 => ?_)
      refine va_bast hx hb hK hP hD hS 1 0 rfl rfl (vp_in_iff.mpr (by decide)) dX11_feed_56 (fun H locs hP hD hS => ?_)
      have hP : va_P D vwCl [(hx0, .inr (11, [.ref (xa 0), .int 0, .int (-1), .ref (xa 1), .ref (xa 2), .ref (xa 3), .ref (xa 4), .ref (xa 5)])), ((xa 0), .inl (cy 0, 1600, .inl (upd (fun _ => 0) (0 : Int32).toNatClampNeg (vp_nar .byte z26))))] H := hP
      have hD : va_D A [(hx0, .inr (11, [.ref (xa 0), .int 0, .int (-1), .ref (xa 1), .ref (xa 2), .ref (xa 3), .ref (xa 4), .ref (xa 5)])), ((xa 0), .inl (cy 0, 1600, .inl (upd (fun _ => 0) (0 : Int32).toNatClampNeg (vp_nar .byte z26))))] := hD
      generalize hff28 : (upd (fun _ => 0) (0 : Int32).toNatClampNeg (vp_nar .byte z26)) = f28 at hP hD
      refine lv_aload_n hx hb dX11_feed_57 rfl (lv_at hl 1 rfl) ?_
      refine lv_dup hx hb dX11_feed_58 rfl ?_
      refine va_get (D := D) (ci := 11) (v := .int 0) (C := RX11) (T := TX11) (N := 8) hx hb hT i_TX11 hown hK hP 0 rfl rfl 1 (by decide) (hT _ t_534) (fun _ h9 => h9) rfl dX11_feed_59 ?_
      refine lv_iconst (v := 1) hx hb dX11_feed_62 (by decide) ?_
      refine lv_iadd hx hb dX11_feed_63 ?_
      refine lv_topi (fun z29 e30 => ?_)
      obtain rfl : z29 = 1 := e30.trans (by first | decide | rfl)
      refine va_put (D := D) (ci := 11) (v := .int 1) (ty := .int) (C := RX11) (T := TX11) (N := 8) hx hb hT i_TX11 tyX11 tyX11_ok nmX11 hown hK hP hD hS 0 rfl rfl 1 (by decide) (hT _ t_534) (fun _ h9 => h9) rfl (by decide +kernel) rfl rfl (Nat.le_of_ble_eq_true rfl) dX11_feed_64 (fun H locs hP hD hS => ?_)
      have hP : va_P D vwCl [(hx0, .inr (11, [.ref (xa 0), .int 1, .int (-1), .ref (xa 1), .ref (xa 2), .ref (xa 3), .ref (xa 4), .ref (xa 5)])), ((xa 0), .inl (cy 0, 1600, .inl f28))] H := hP
      have hD : va_D A [(hx0, .inr (11, [.ref (xa 0), .int 1, .int (-1), .ref (xa 1), .ref (xa 2), .ref (xa 3), .ref (xa 4), .ref (xa 5)])), ((xa 0), .inl (cy 0, 1600, .inl f28))] := hD
      refine lv_iinc (v := 0) (lv' := [(4, .int 0), (0, .ref hx0), (1, .long p0), (3, .int (nI 2))]) hx hb dX11_feed_67 hl (k := 0) rfl (by decide) (by decide) rfl (fun ls hl => ?_)
      refine lv_goto (tgt := 34) hx hb dX11_feed_70 (by decide) ?_
      refine lv_iload hx hb dX11_feed_34 (lv_at hl 0 rfl) ?_
      refine lv_if_lt (tgt := 73) hx hb dX11_feed_36 (by decide) (fun c9 => absurd c9 (by decide)) (fun _ => ?_)
      refine lv_aload_n hx hb dX11_feed_39 rfl (lv_at hl 1 rfl) ?_
      refine va_get (D := D) (ci := 11) (v := .ref (xa 0)) (C := RX11) (T := TX11) (N := 8) hx hb hT i_TX11 hown hK hP 0 rfl rfl 0 (by decide) (hT _ t_533) (fun _ h9 => h9) rfl dX11_feed_40 ?_
      refine lv_aload_n hx hb dX11_feed_43 rfl (lv_at hl 1 rfl) ?_
      refine va_get (D := D) (ci := 11) (v := .int 1) (C := RX11) (T := TX11) (N := 8) hx hb hT i_TX11 hown hK hP 0 rfl rfl 1 (by decide) (hT _ t_534) (fun _ h9 => h9) rfl dX11_feed_44 ?_
      refine lv_lload_n hx hb dX11_feed_47 rfl (lv_at hl 2 rfl) ?_
      refine lv_bipush (v := 8) hx hb dX11_feed_48 (by decide) ?_
      refine lv_iload hx hb dX11_feed_50 (lv_at hl 0 rfl) ?_
      refine lv_imul hx hb dX11_feed_52 ?_
      refine lv_topi (fun z31 e32 => ?_)
      obtain rfl : z31 = 0 := e32.trans (by first | decide | rfl)
      refine lv_lushr hx hb dX11_feed_53 rfl ?_
      refine lv_topl (fun z33 e34 => ?_)
      refine lv_l2i hx hb dX11_feed_54 rfl ?_
      refine lv_topi (fun z35 e36 => ?_)
      refine lv_i2b hx hb dX11_feed_55 rfl ?_
      refine lv_topi (fun z37 e38 => ?_)
      refine va_bast hx hb hK hP hD hS 1 0 rfl rfl (vp_in_iff.mpr (by decide)) dX11_feed_56 (fun H locs hP hD hS => ?_)
      have hP : va_P D vwCl [(hx0, .inr (11, [.ref (xa 0), .int 1, .int (-1), .ref (xa 1), .ref (xa 2), .ref (xa 3), .ref (xa 4), .ref (xa 5)])), ((xa 0), .inl (cy 0, 1600, .inl (upd f28 (1 : Int32).toNatClampNeg (vp_nar .byte z37))))] H := hP
      have hD : va_D A [(hx0, .inr (11, [.ref (xa 0), .int 1, .int (-1), .ref (xa 1), .ref (xa 2), .ref (xa 3), .ref (xa 4), .ref (xa 5)])), ((xa 0), .inl (cy 0, 1600, .inl (upd f28 (1 : Int32).toNatClampNeg (vp_nar .byte z37))))] := hD
      generalize hff39 : (upd f28 (1 : Int32).toNatClampNeg (vp_nar .byte z37)) = f39 at hP hD
      refine lv_aload_n hx hb dX11_feed_57 rfl (lv_at hl 1 rfl) ?_
      refine lv_dup hx hb dX11_feed_58 rfl ?_
      refine va_get (D := D) (ci := 11) (v := .int 1) (C := RX11) (T := TX11) (N := 8) hx hb hT i_TX11 hown hK hP 0 rfl rfl 1 (by decide) (hT _ t_534) (fun _ h9 => h9) rfl dX11_feed_59 ?_
      refine lv_iconst (v := 1) hx hb dX11_feed_62 (by decide) ?_
      refine lv_iadd hx hb dX11_feed_63 ?_
      refine lv_topi (fun z40 e41 => ?_)
      obtain rfl : z40 = 2 := e41.trans (by first | decide | rfl)
      refine va_put (D := D) (ci := 11) (v := .int 2) (ty := .int) (C := RX11) (T := TX11) (N := 8) hx hb hT i_TX11 tyX11 tyX11_ok nmX11 hown hK hP hD hS 0 rfl rfl 1 (by decide) (hT _ t_534) (fun _ h9 => h9) rfl (by decide +kernel) rfl rfl (Nat.le_of_ble_eq_true rfl) dX11_feed_64 (fun H locs hP hD hS => ?_)
      have hP : va_P D vwCl [(hx0, .inr (11, [.ref (xa 0), .int 2, .int (-1), .ref (xa 1), .ref (xa 2), .ref (xa 3), .ref (xa 4), .ref (xa 5)])), ((xa 0), .inl (cy 0, 1600, .inl f39))] H := hP
      have hD : va_D A [(hx0, .inr (11, [.ref (xa 0), .int 2, .int (-1), .ref (xa 1), .ref (xa 2), .ref (xa 3), .ref (xa 4), .ref (xa 5)])), ((xa 0), .inl (cy 0, 1600, .inl f39))] := hD
      refine lv_iinc (v := (-1)) (lv' := [(4, .int (-1)), (0, .ref hx0), (1, .long p0), (3, .int (nI 2))]) hx hb dX11_feed_67 hl (k := 0) rfl (by decide) (by decide) rfl (fun ls hl => ?_)
      refine lv_goto (tgt := 34) hx hb dX11_feed_70 (by decide) ?_
      refine lv_iload hx hb dX11_feed_34 (lv_at hl 0 rfl) ?_
      refine lv_if_lt (tgt := 73) hx hb dX11_feed_36 (by decide) (fun _ => ?_) (fun c9 => absurd (by decide) c9)
      refine lv_aload_n hx hb dX11_feed_73 rfl (lv_at hl 1 rfl) ?_
      refine va_get (D := D) (ci := 11) (v := .int 2) (C := RX11) (T := TX11) (N := 8) hx hb hT i_TX11 hown hK hP 0 rfl rfl 1 (by decide) (hT _ t_534) (fun _ h9 => h9) rfl dX11_feed_74 ?_
      have hP9 := hP.sub (ws' := []) [] rfl
      have hD9 := hD.sub (ws' := []) [] (by decide) rfl
      refine W.widen (k := 0) (n := 0) (Nat.le_of_ble_eq_true rfl) (Nat.le_of_ble_eq_true rfl) ?_
      exact W.iret (v := 2) hx hb hr (fun t ht hW => ⟨⟨2, (), rfl, (by decide), by rw [ht]; exact hP9, hD9⟩, hS.F ht⟩) hS.2.2 dX11_feed_77
    · refine lv_iload_n hx hb dX11_feed_0 rfl (lv_at hl 2 rfl) ?_
      refine lv_iconst (v := 1) hx hb dX11_feed_1 (by decide) ?_
      refine lv_icmp_lt (tgt := 11) hx hb dX11_feed_2 (by decide) (fun c9 => absurd c9 (by decide)) (fun _ => ?_)
      refine lv_iload_n hx hb dX11_feed_5 rfl (lv_at hl 2 rfl) ?_
      refine lv_bipush (v := 8) hx hb dX11_feed_6 (by decide) ?_
      refine lv_icmp_le (tgt := 14) hx hb dX11_feed_8 (by decide) (fun _ => ?_) (fun c9 => absurd (by decide) c9)
      refine lv_aload_n hx hb dX11_feed_14 rfl (lv_at hl 0 rfl) ?_
      refine va_get (D := D) (ci := 11) (v := .int 0) (C := RX11) (T := TX11) (N := 8) hx hb hT i_TX11 hown hK hP 0 rfl rfl 1 (by decide) (hT _ t_534) (fun _ h9 => h9) rfl dX11_feed_15 ?_
      refine lv_iload_n hx hb dX11_feed_18 rfl (lv_at hl 2 rfl) ?_
      refine lv_iadd hx hb dX11_feed_19 ?_
      refine lv_topi (fun z42 e43 => ?_)
      obtain rfl : z42 = 3 := e43.trans (by first | decide | rfl)
      refine lv_sipush (v := 1600) hx hb dX11_feed_20 (by decide) ?_
      refine lv_icmp_le (tgt := 29) hx hb dX11_feed_23 (by decide) (fun _ => ?_) (fun c9 => absurd (by decide) c9)
      refine lv_iload_n hx hb dX11_feed_29 rfl (lv_at hl 2 rfl) ?_
      refine lv_iconst (v := 1) hx hb dX11_feed_30 (by decide) ?_
      refine lv_isub hx hb dX11_feed_31 ?_
      refine lv_topi (fun z44 e45 => ?_)
      obtain rfl : z44 = 2 := e45.trans (by first | decide | rfl)
      refine lv_istore (lv' := [(4, .int 2), (0, .ref hx0), (1, .long p0), (3, .int (nI 3))]) hx hb dX11_feed_32 hl (by decide) rfl (fun ls hl => ?_)
      refine lv_iload hx hb dX11_feed_34 (lv_at hl 0 rfl) ?_
      refine lv_if_lt (tgt := 73) hx hb dX11_feed_36 (by decide) (fun c9 => absurd c9 (by decide)) (fun _ => ?_)
      refine lv_aload_n hx hb dX11_feed_39 rfl (lv_at hl 1 rfl) ?_
      refine va_get (D := D) (ci := 11) (v := .ref (xa 0)) (C := RX11) (T := TX11) (N := 8) hx hb hT i_TX11 hown hK hP 0 rfl rfl 0 (by decide) (hT _ t_533) (fun _ h9 => h9) rfl dX11_feed_40 ?_
      refine lv_aload_n hx hb dX11_feed_43 rfl (lv_at hl 1 rfl) ?_
      refine va_get (D := D) (ci := 11) (v := .int 0) (C := RX11) (T := TX11) (N := 8) hx hb hT i_TX11 hown hK hP 0 rfl rfl 1 (by decide) (hT _ t_534) (fun _ h9 => h9) rfl dX11_feed_44 ?_
      refine lv_lload_n hx hb dX11_feed_47 rfl (lv_at hl 2 rfl) ?_
      refine lv_bipush (v := 8) hx hb dX11_feed_48 (by decide) ?_
      refine lv_iload hx hb dX11_feed_50 (lv_at hl 0 rfl) ?_
      refine lv_imul hx hb dX11_feed_52 ?_
      refine lv_topi (fun z46 e47 => ?_)
      obtain rfl : z46 = 16 := e47.trans (by first | decide | rfl)
      refine lv_lushr hx hb dX11_feed_53 rfl ?_
      refine lv_topl (fun z48 e49 => ?_)
      refine lv_l2i hx hb dX11_feed_54 rfl ?_
      refine lv_topi (fun z50 e51 => ?_)
      refine lv_i2b hx hb dX11_feed_55 rfl ?_
      refine lv_topi (fun z52 e53 => ?_)
      refine va_bast hx hb hK hP hD hS 1 0 rfl rfl (vp_in_iff.mpr (by decide)) dX11_feed_56 (fun H locs hP hD hS => ?_)
      have hP : va_P D vwCl [(hx0, .inr (11, [.ref (xa 0), .int 0, .int (-1), .ref (xa 1), .ref (xa 2), .ref (xa 3), .ref (xa 4), .ref (xa 5)])), ((xa 0), .inl (cy 0, 1600, .inl (upd (fun _ => 0) (0 : Int32).toNatClampNeg (vp_nar .byte z52))))] H := hP
      have hD : va_D A [(hx0, .inr (11, [.ref (xa 0), .int 0, .int (-1), .ref (xa 1), .ref (xa 2), .ref (xa 3), .ref (xa 4), .ref (xa 5)])), ((xa 0), .inl (cy 0, 1600, .inl (upd (fun _ => 0) (0 : Int32).toNatClampNeg (vp_nar .byte z52))))] := hD
      generalize hff54 : (upd (fun _ => 0) (0 : Int32).toNatClampNeg (vp_nar .byte z52)) = f54 at hP hD
      refine lv_aload_n hx hb dX11_feed_57 rfl (lv_at hl 1 rfl) ?_
      refine lv_dup hx hb dX11_feed_58 rfl ?_
      refine va_get (D := D) (ci := 11) (v := .int 0) (C := RX11) (T := TX11) (N := 8) hx hb hT i_TX11 hown hK hP 0 rfl rfl 1 (by decide) (hT _ t_534) (fun _ h9 => h9) rfl dX11_feed_59 ?_
      refine lv_iconst (v := 1) hx hb dX11_feed_62 (by decide) ?_
      refine lv_iadd hx hb dX11_feed_63 ?_
      refine lv_topi (fun z55 e56 => ?_)
      obtain rfl : z55 = 1 := e56.trans (by first | decide | rfl)
      refine va_put (D := D) (ci := 11) (v := .int 1) (ty := .int) (C := RX11) (T := TX11) (N := 8) hx hb hT i_TX11 tyX11 tyX11_ok nmX11 hown hK hP hD hS 0 rfl rfl 1 (by decide) (hT _ t_534) (fun _ h9 => h9) rfl (by decide +kernel) rfl rfl (Nat.le_of_ble_eq_true rfl) dX11_feed_64 (fun H locs hP hD hS => ?_)
      have hP : va_P D vwCl [(hx0, .inr (11, [.ref (xa 0), .int 1, .int (-1), .ref (xa 1), .ref (xa 2), .ref (xa 3), .ref (xa 4), .ref (xa 5)])), ((xa 0), .inl (cy 0, 1600, .inl f54))] H := hP
      have hD : va_D A [(hx0, .inr (11, [.ref (xa 0), .int 1, .int (-1), .ref (xa 1), .ref (xa 2), .ref (xa 3), .ref (xa 4), .ref (xa 5)])), ((xa 0), .inl (cy 0, 1600, .inl f54))] := hD
      refine lv_iinc (v := 1) (lv' := [(4, .int 1), (0, .ref hx0), (1, .long p0), (3, .int (nI 3))]) hx hb dX11_feed_67 hl (k := 0) rfl (by decide) (by decide) rfl (fun ls hl => ?_)
      refine lv_goto (tgt := 34) hx hb dX11_feed_70 (by decide) ?_
      refine lv_iload hx hb dX11_feed_34 (lv_at hl 0 rfl) ?_
      refine lv_if_lt (tgt := 73) hx hb dX11_feed_36 (by decide) (fun c9 => absurd c9 (by decide)) (fun _ => ?_)
      refine lv_aload_n hx hb dX11_feed_39 rfl (lv_at hl 1 rfl) ?_
      refine va_get (D := D) (ci := 11) (v := .ref (xa 0)) (C := RX11) (T := TX11) (N := 8) hx hb hT i_TX11 hown hK hP 0 rfl rfl 0 (by decide) (hT _ t_533) (fun _ h9 => h9) rfl dX11_feed_40 ?_
      refine lv_aload_n hx hb dX11_feed_43 rfl (lv_at hl 1 rfl) ?_
      refine va_get (D := D) (ci := 11) (v := .int 1) (C := RX11) (T := TX11) (N := 8) hx hb hT i_TX11 hown hK hP 0 rfl rfl 1 (by decide) (hT _ t_534) (fun _ h9 => h9) rfl dX11_feed_44 ?_
      refine lv_lload_n hx hb dX11_feed_47 rfl (lv_at hl 2 rfl) ?_
      refine lv_bipush (v := 8) hx hb dX11_feed_48 (by decide) ?_
      refine lv_iload hx hb dX11_feed_50 (lv_at hl 0 rfl) ?_
      refine lv_imul hx hb dX11_feed_52 ?_
      refine lv_topi (fun z57 e58 => ?_)
      obtain rfl : z57 = 8 := e58.trans (by first | decide | rfl)
      refine lv_lushr hx hb dX11_feed_53 rfl ?_
      refine lv_topl (fun z59 e60 => ?_)
      refine lv_l2i hx hb dX11_feed_54 rfl ?_
      refine lv_topi (fun z61 e62 => ?_)
      refine lv_i2b hx hb dX11_feed_55 rfl ?_
      refine lv_topi (fun z63 e64 => ?_)
      refine va_bast hx hb hK hP hD hS 1 0 rfl rfl (vp_in_iff.mpr (by decide)) dX11_feed_56 (fun H locs hP hD hS => ?_)
      have hP : va_P D vwCl [(hx0, .inr (11, [.ref (xa 0), .int 1, .int (-1), .ref (xa 1), .ref (xa 2), .ref (xa 3), .ref (xa 4), .ref (xa 5)])), ((xa 0), .inl (cy 0, 1600, .inl (upd f54 (1 : Int32).toNatClampNeg (vp_nar .byte z63))))] H := hP
      have hD : va_D A [(hx0, .inr (11, [.ref (xa 0), .int 1, .int (-1), .ref (xa 1), .ref (xa 2), .ref (xa 3), .ref (xa 4), .ref (xa 5)])), ((xa 0), .inl (cy 0, 1600, .inl (upd f54 (1 : Int32).toNatClampNeg (vp_nar .byte z63))))] := hD
      generalize hff65 : (upd f54 (1 : Int32).toNatClampNeg (vp_nar .byte z63)) = f65 at hP hD
      refine lv_aload_n hx hb dX11_feed_57 rfl (lv_at hl 1 rfl) ?_
      refine lv_dup hx hb dX11_feed_58 rfl ?_
      refine va_get (D := D) (ci := 11) (v := .int 1) (C := RX11) (T := TX11) (N := 8) hx hb hT i_TX11 hown hK hP 0 rfl rfl 1 (by decide) (hT _ t_534) (fun _ h9 => h9) rfl dX11_feed_59 ?_
      refine lv_iconst (v := 1) hx hb dX11_feed_62 (by decide) ?_
      refine lv_iadd hx hb dX11_feed_63 ?_
      refine lv_topi (fun z66 e67 => ?_)
      obtain rfl : z66 = 2 := e67.trans (by first | decide | rfl)
      refine va_put (D := D) (ci := 11) (v := .int 2) (ty := .int) (C := RX11) (T := TX11) (N := 8) hx hb hT i_TX11 tyX11 tyX11_ok nmX11 hown hK hP hD hS 0 rfl rfl 1 (by decide) (hT _ t_534) (fun _ h9 => h9) rfl (by decide +kernel) rfl rfl (Nat.le_of_ble_eq_true rfl) dX11_feed_64 (fun H locs hP hD hS => ?_)
      have hP : va_P D vwCl [(hx0, .inr (11, [.ref (xa 0), .int 2, .int (-1), .ref (xa 1), .ref (xa 2), .ref (xa 3), .ref (xa 4), .ref (xa 5)])), ((xa 0), .inl (cy 0, 1600, .inl f65))] H := hP
      have hD : va_D A [(hx0, .inr (11, [.ref (xa 0), .int 2, .int (-1), .ref (xa 1), .ref (xa 2), .ref (xa 3), .ref (xa 4), .ref (xa 5)])), ((xa 0), .inl (cy 0, 1600, .inl f65))] := hD
      refine lv_iinc (v := 0) (lv' := [(4, .int 0), (0, .ref hx0), (1, .long p0), (3, .int (nI 3))]) hx hb dX11_feed_67 hl (k := 0) rfl (by decide) (by decide) rfl (fun ls hl => ?_)
      refine lv_goto (tgt := 34) hx hb dX11_feed_70 (by decide) ?_
      refine lv_iload hx hb dX11_feed_34 (lv_at hl 0 rfl) ?_
      refine lv_if_lt (tgt := 73) hx hb dX11_feed_36 (by decide) (fun c9 => absurd c9 (by decide)) (fun _ => ?_)
      refine lv_aload_n hx hb dX11_feed_39 rfl (lv_at hl 1 rfl) ?_
      refine va_get (D := D) (ci := 11) (v := .ref (xa 0)) (C := RX11) (T := TX11) (N := 8) hx hb hT i_TX11 hown hK hP 0 rfl rfl 0 (by decide) (hT _ t_533) (fun _ h9 => h9) rfl dX11_feed_40 ?_
      refine lv_aload_n hx hb dX11_feed_43 rfl (lv_at hl 1 rfl) ?_
      refine va_get (D := D) (ci := 11) (v := .int 2) (C := RX11) (T := TX11) (N := 8) hx hb hT i_TX11 hown hK hP 0 rfl rfl 1 (by decide) (hT _ t_534) (fun _ h9 => h9) rfl dX11_feed_44 ?_
      refine lv_lload_n hx hb dX11_feed_47 rfl (lv_at hl 2 rfl) ?_
      refine lv_bipush (v := 8) hx hb dX11_feed_48 (by decide) ?_
      refine lv_iload hx hb dX11_feed_50 (lv_at hl 0 rfl) ?_
      refine lv_imul hx hb dX11_feed_52 ?_
      refine lv_topi (fun z68 e69 => ?_)
      obtain rfl : z68 = 0 := e69.trans (by first | decide | rfl)
      refine lv_lushr hx hb dX11_feed_53 rfl ?_
      refine lv_topl (fun z70 e71 => ?_)
      refine lv_l2i hx hb dX11_feed_54 rfl ?_
      refine lv_topi (fun z72 e73 => ?_)
      refine lv_i2b hx hb dX11_feed_55 rfl ?_
      refine lv_topi (fun z74 e75 => ?_)
      refine va_bast hx hb hK hP hD hS 1 0 rfl rfl (vp_in_iff.mpr (by decide)) dX11_feed_56 (fun H locs hP hD hS => ?_)
      have hP : va_P D vwCl [(hx0, .inr (11, [.ref (xa 0), .int 2, .int (-1), .ref (xa 1), .ref (xa 2), .ref (xa 3), .ref (xa 4), .ref (xa 5)])), ((xa 0), .inl (cy 0, 1600, .inl (upd f65 (2 : Int32).toNatClampNeg (vp_nar .byte z74))))] H := hP
      have hD : va_D A [(hx0, .inr (11, [.ref (xa 0), .int 2, .int (-1), .ref (xa 1), .ref (xa 2), .ref (xa 3), .ref (xa 4), .ref (xa 5)])), ((xa 0), .inl (cy 0, 1600, .inl (upd f65 (2 : Int32).toNatClampNeg (vp_nar .byte z74))))] := hD
      generalize hff76 : (upd f65 (2 : Int32).toNatClampNeg (vp_nar .byte z74)) = f76 at hP hD
      refine lv_aload_n hx hb dX11_feed_57 rfl (lv_at hl 1 rfl) ?_
      refine lv_dup hx hb dX11_feed_58 rfl ?_
      refine va_get (D := D) (ci := 11) (v := .int 2) (C := RX11) (T := TX11) (N := 8) hx hb hT i_TX11 hown hK hP 0 rfl rfl 1 (by decide) (hT _ t_534) (fun _ h9 => h9) rfl dX11_feed_59 ?_
      refine lv_iconst (v := 1) hx hb dX11_feed_62 (by decide) ?_
      refine lv_iadd hx hb dX11_feed_63 ?_
      refine lv_topi (fun z77 e78 => ?_)
      obtain rfl : z77 = 3 := e78.trans (by first | decide | rfl)
      refine va_put (D := D) (ci := 11) (v := .int 3) (ty := .int) (C := RX11) (T := TX11) (N := 8) hx hb hT i_TX11 tyX11 tyX11_ok nmX11 hown hK hP hD hS 0 rfl rfl 1 (by decide) (hT _ t_534) (fun _ h9 => h9) rfl (by decide +kernel) rfl rfl (Nat.le_of_ble_eq_true rfl) dX11_feed_64 (fun H locs hP hD hS => ?_)
      have hP : va_P D vwCl [(hx0, .inr (11, [.ref (xa 0), .int 3, .int (-1), .ref (xa 1), .ref (xa 2), .ref (xa 3), .ref (xa 4), .ref (xa 5)])), ((xa 0), .inl (cy 0, 1600, .inl f76))] H := hP
      have hD : va_D A [(hx0, .inr (11, [.ref (xa 0), .int 3, .int (-1), .ref (xa 1), .ref (xa 2), .ref (xa 3), .ref (xa 4), .ref (xa 5)])), ((xa 0), .inl (cy 0, 1600, .inl f76))] := hD
      refine lv_iinc (v := (-1)) (lv' := [(4, .int (-1)), (0, .ref hx0), (1, .long p0), (3, .int (nI 3))]) hx hb dX11_feed_67 hl (k := 0) rfl (by decide) (by decide) rfl (fun ls hl => ?_)
      refine lv_goto (tgt := 34) hx hb dX11_feed_70 (by decide) ?_
      refine lv_iload hx hb dX11_feed_34 (lv_at hl 0 rfl) ?_
      refine lv_if_lt (tgt := 73) hx hb dX11_feed_36 (by decide) (fun _ => ?_) (fun c9 => absurd (by decide) c9)
      refine lv_aload_n hx hb dX11_feed_73 rfl (lv_at hl 1 rfl) ?_
      refine va_get (D := D) (ci := 11) (v := .int 3) (C := RX11) (T := TX11) (N := 8) hx hb hT i_TX11 hown hK hP 0 rfl rfl 1 (by decide) (hT _ t_534) (fun _ h9 => h9) rfl dX11_feed_74 ?_
      have hP9 := hP.sub (ws' := []) [] rfl
      have hD9 := hD.sub (ws' := []) [] (by decide) rfl
      refine W.widen (k := 0) (n := 0) (Nat.le_of_ble_eq_true rfl) (Nat.le_of_ble_eq_true rfl) ?_
      exact W.iret (v := 3) hx hb hr (fun t ht hW => ⟨⟨3, (), rfl, (by decide), by rw [ht]; exact hP9, hD9⟩, hS.F ht⟩) hS.2.2 dX11_feed_77
    · refine lv_iload_n hx hb dX11_feed_0 rfl (lv_at hl 2 rfl) ?_
      refine lv_iconst (v := 1) hx hb dX11_feed_1 (by decide) ?_
      refine lv_icmp_lt (tgt := 11) hx hb dX11_feed_2 (by decide) (fun c9 => absurd c9 (by decide)) (fun _ => ?_)
      refine lv_iload_n hx hb dX11_feed_5 rfl (lv_at hl 2 rfl) ?_
      refine lv_bipush (v := 8) hx hb dX11_feed_6 (by decide) ?_
      refine lv_icmp_le (tgt := 14) hx hb dX11_feed_8 (by decide) (fun _ => ?_) (fun c9 => absurd (by decide) c9)
      refine lv_aload_n hx hb dX11_feed_14 rfl (lv_at hl 0 rfl) ?_
      refine va_get (D := D) (ci := 11) (v := .int 0) (C := RX11) (T := TX11) (N := 8) hx hb hT i_TX11 hown hK hP 0 rfl rfl 1 (by decide) (hT _ t_534) (fun _ h9 => h9) rfl dX11_feed_15 ?_
      refine lv_iload_n hx hb dX11_feed_18 rfl (lv_at hl 2 rfl) ?_
      refine lv_iadd hx hb dX11_feed_19 ?_
      refine lv_topi (fun z79 e80 => ?_)
      obtain rfl : z79 = 4 := e80.trans (by first | decide | rfl)
      refine lv_sipush (v := 1600) hx hb dX11_feed_20 (by decide) ?_
      refine lv_icmp_le (tgt := 29) hx hb dX11_feed_23 (by decide) (fun _ => ?_) (fun c9 => absurd (by decide) c9)
      refine lv_iload_n hx hb dX11_feed_29 rfl (lv_at hl 2 rfl) ?_
      refine lv_iconst (v := 1) hx hb dX11_feed_30 (by decide) ?_
      refine lv_isub hx hb dX11_feed_31 ?_
      refine lv_topi (fun z81 e82 => ?_)
      obtain rfl : z81 = 3 := e82.trans (by first | decide | rfl)
      refine lv_istore (lv' := [(4, .int 3), (0, .ref hx0), (1, .long p0), (3, .int (nI 4))]) hx hb dX11_feed_32 hl (by decide) rfl (fun ls hl => ?_)
      refine lv_iload hx hb dX11_feed_34 (lv_at hl 0 rfl) ?_
      refine lv_if_lt (tgt := 73) hx hb dX11_feed_36 (by decide) (fun c9 => absurd c9 (by decide)) (fun _ => ?_)
      refine lv_aload_n hx hb dX11_feed_39 rfl (lv_at hl 1 rfl) ?_
      refine va_get (D := D) (ci := 11) (v := .ref (xa 0)) (C := RX11) (T := TX11) (N := 8) hx hb hT i_TX11 hown hK hP 0 rfl rfl 0 (by decide) (hT _ t_533) (fun _ h9 => h9) rfl dX11_feed_40 ?_
      refine lv_aload_n hx hb dX11_feed_43 rfl (lv_at hl 1 rfl) ?_
      refine va_get (D := D) (ci := 11) (v := .int 0) (C := RX11) (T := TX11) (N := 8) hx hb hT i_TX11 hown hK hP 0 rfl rfl 1 (by decide) (hT _ t_534) (fun _ h9 => h9) rfl dX11_feed_44 ?_
      refine lv_lload_n hx hb dX11_feed_47 rfl (lv_at hl 2 rfl) ?_
      refine lv_bipush (v := 8) hx hb dX11_feed_48 (by decide) ?_
      refine lv_iload hx hb dX11_feed_50 (lv_at hl 0 rfl) ?_
      refine lv_imul hx hb dX11_feed_52 ?_
      refine lv_topi (fun z83 e84 => ?_)
      obtain rfl : z83 = 24 := e84.trans (by first | decide | rfl)
      refine lv_lushr hx hb dX11_feed_53 rfl ?_
      refine lv_topl (fun z85 e86 => ?_)
      refine lv_l2i hx hb dX11_feed_54 rfl ?_
      refine lv_topi (fun z87 e88 => ?_)
      refine lv_i2b hx hb dX11_feed_55 rfl ?_
      refine lv_topi (fun z89 e90 => ?_)
      refine va_bast hx hb hK hP hD hS 1 0 rfl rfl (vp_in_iff.mpr (by decide)) dX11_feed_56 (fun H locs hP hD hS => ?_)
      have hP : va_P D vwCl [(hx0, .inr (11, [.ref (xa 0), .int 0, .int (-1), .ref (xa 1), .ref (xa 2), .ref (xa 3), .ref (xa 4), .ref (xa 5)])), ((xa 0), .inl (cy 0, 1600, .inl (upd (fun _ => 0) (0 : Int32).toNatClampNeg (vp_nar .byte z89))))] H := hP
      have hD : va_D A [(hx0, .inr (11, [.ref (xa 0), .int 0, .int (-1), .ref (xa 1), .ref (xa 2), .ref (xa 3), .ref (xa 4), .ref (xa 5)])), ((xa 0), .inl (cy 0, 1600, .inl (upd (fun _ => 0) (0 : Int32).toNatClampNeg (vp_nar .byte z89))))] := hD
      generalize hff91 : (upd (fun _ => 0) (0 : Int32).toNatClampNeg (vp_nar .byte z89)) = f91 at hP hD
      refine lv_aload_n hx hb dX11_feed_57 rfl (lv_at hl 1 rfl) ?_
      refine lv_dup hx hb dX11_feed_58 rfl ?_
      refine va_get (D := D) (ci := 11) (v := .int 0) (C := RX11) (T := TX11) (N := 8) hx hb hT i_TX11 hown hK hP 0 rfl rfl 1 (by decide) (hT _ t_534) (fun _ h9 => h9) rfl dX11_feed_59 ?_
      refine lv_iconst (v := 1) hx hb dX11_feed_62 (by decide) ?_
      refine lv_iadd hx hb dX11_feed_63 ?_
      refine lv_topi (fun z92 e93 => ?_)
      obtain rfl : z92 = 1 := e93.trans (by first | decide | rfl)
      refine va_put (D := D) (ci := 11) (v := .int 1) (ty := .int) (C := RX11) (T := TX11) (N := 8) hx hb hT i_TX11 tyX11 tyX11_ok nmX11 hown hK hP hD hS 0 rfl rfl 1 (by decide) (hT _ t_534) (fun _ h9 => h9) rfl (by decide +kernel) rfl rfl (Nat.le_of_ble_eq_true rfl) dX11_feed_64 (fun H locs hP hD hS => ?_)
      have hP : va_P D vwCl [(hx0, .inr (11, [.ref (xa 0), .int 1, .int (-1), .ref (xa 1), .ref (xa 2), .ref (xa 3), .ref (xa 4), .ref (xa 5)])), ((xa 0), .inl (cy 0, 1600, .inl f91))] H := hP
      have hD : va_D A [(hx0, .inr (11, [.ref (xa 0), .int 1, .int (-1), .ref (xa 1), .ref (xa 2), .ref (xa 3), .ref (xa 4), .ref (xa 5)])), ((xa 0), .inl (cy 0, 1600, .inl f91))] := hD
      refine lv_iinc (v := 2) (lv' := [(4, .int 2), (0, .ref hx0), (1, .long p0), (3, .int (nI 4))]) hx hb dX11_feed_67 hl (k := 0) rfl (by decide) (by decide) rfl (fun ls hl => ?_)
      refine lv_goto (tgt := 34) hx hb dX11_feed_70 (by decide) ?_
      refine lv_iload hx hb dX11_feed_34 (lv_at hl 0 rfl) ?_
      refine lv_if_lt (tgt := 73) hx hb dX11_feed_36 (by decide) (fun c9 => absurd c9 (by decide)) (fun _ => ?_)
      refine lv_aload_n hx hb dX11_feed_39 rfl (lv_at hl 1 rfl) ?_
      refine va_get (D := D) (ci := 11) (v := .ref (xa 0)) (C := RX11) (T := TX11) (N := 8) hx hb hT i_TX11 hown hK hP 0 rfl rfl 0 (by decide) (hT _ t_533) (fun _ h9 => h9) rfl dX11_feed_40 ?_
      refine lv_aload_n hx hb dX11_feed_43 rfl (lv_at hl 1 rfl) ?_
      refine va_get (D := D) (ci := 11) (v := .int 1) (C := RX11) (T := TX11) (N := 8) hx hb hT i_TX11 hown hK hP 0 rfl rfl 1 (by decide) (hT _ t_534) (fun _ h9 => h9) rfl dX11_feed_44 ?_
      refine lv_lload_n hx hb dX11_feed_47 rfl (lv_at hl 2 rfl) ?_
      refine lv_bipush (v := 8) hx hb dX11_feed_48 (by decide) ?_
      refine lv_iload hx hb dX11_feed_50 (lv_at hl 0 rfl) ?_
      refine lv_imul hx hb dX11_feed_52 ?_
      refine lv_topi (fun z94 e95 => ?_)
      obtain rfl : z94 = 16 := e95.trans (by first | decide | rfl)
      refine lv_lushr hx hb dX11_feed_53 rfl ?_
      refine lv_topl (fun z96 e97 => ?_)
      refine lv_l2i hx hb dX11_feed_54 rfl ?_
      refine lv_topi (fun z98 e99 => ?_)
      refine lv_i2b hx hb dX11_feed_55 rfl ?_
      refine lv_topi (fun z100 e101 => ?_)
      refine va_bast hx hb hK hP hD hS 1 0 rfl rfl (vp_in_iff.mpr (by decide)) dX11_feed_56 (fun H locs hP hD hS => ?_)
      have hP : va_P D vwCl [(hx0, .inr (11, [.ref (xa 0), .int 1, .int (-1), .ref (xa 1), .ref (xa 2), .ref (xa 3), .ref (xa 4), .ref (xa 5)])), ((xa 0), .inl (cy 0, 1600, .inl (upd f91 (1 : Int32).toNatClampNeg (vp_nar .byte z100))))] H := hP
      have hD : va_D A [(hx0, .inr (11, [.ref (xa 0), .int 1, .int (-1), .ref (xa 1), .ref (xa 2), .ref (xa 3), .ref (xa 4), .ref (xa 5)])), ((xa 0), .inl (cy 0, 1600, .inl (upd f91 (1 : Int32).toNatClampNeg (vp_nar .byte z100))))] := hD
      generalize hff102 : (upd f91 (1 : Int32).toNatClampNeg (vp_nar .byte z100)) = f102 at hP hD
      refine lv_aload_n hx hb dX11_feed_57 rfl (lv_at hl 1 rfl) ?_
      refine lv_dup hx hb dX11_feed_58 rfl ?_
      refine va_get (D := D) (ci := 11) (v := .int 1) (C := RX11) (T := TX11) (N := 8) hx hb hT i_TX11 hown hK hP 0 rfl rfl 1 (by decide) (hT _ t_534) (fun _ h9 => h9) rfl dX11_feed_59 ?_
      refine lv_iconst (v := 1) hx hb dX11_feed_62 (by decide) ?_
      refine lv_iadd hx hb dX11_feed_63 ?_
      refine lv_topi (fun z103 e104 => ?_)
      obtain rfl : z103 = 2 := e104.trans (by first | decide | rfl)
      refine va_put (D := D) (ci := 11) (v := .int 2) (ty := .int) (C := RX11) (T := TX11) (N := 8) hx hb hT i_TX11 tyX11 tyX11_ok nmX11 hown hK hP hD hS 0 rfl rfl 1 (by decide) (hT _ t_534) (fun _ h9 => h9) rfl (by decide +kernel) rfl rfl (Nat.le_of_ble_eq_true rfl) dX11_feed_64 (fun H locs hP hD hS => ?_)
      have hP : va_P D vwCl [(hx0, .inr (11, [.ref (xa 0), .int 2, .int (-1), .ref (xa 1), .ref (xa 2), .ref (xa 3), .ref (xa 4), .ref (xa 5)])), ((xa 0), .inl (cy 0, 1600, .inl f102))] H := hP
      have hD : va_D A [(hx0, .inr (11, [.ref (xa 0), .int 2, .int (-1), .ref (xa 1), .ref (xa 2), .ref (xa 3), .ref (xa 4), .ref (xa 5)])), ((xa 0), .inl (cy 0, 1600, .inl f102))] := hD
      refine lv_iinc (v := 1) (lv' := [(4, .int 1), (0, .ref hx0), (1, .long p0), (3, .int (nI 4))]) hx hb dX11_feed_67 hl (k := 0) rfl (by decide) (by decide) rfl (fun ls hl => ?_)
      refine lv_goto (tgt := 34) hx hb dX11_feed_70 (by decide) ?_
      refine lv_iload hx hb dX11_feed_34 (lv_at hl 0 rfl) ?_
      refine lv_if_lt (tgt := 73) hx hb dX11_feed_36 (by decide) (fun c9 => absurd c9 (by decide)) (fun _ => ?_)
      refine lv_aload_n hx hb dX11_feed_39 rfl (lv_at hl 1 rfl) ?_
      refine va_get (D := D) (ci := 11) (v := .ref (xa 0)) (C := RX11) (T := TX11) (N := 8) hx hb hT i_TX11 hown hK hP 0 rfl rfl 0 (by decide) (hT _ t_533) (fun _ h9 => h9) rfl dX11_feed_40 ?_
      refine lv_aload_n hx hb dX11_feed_43 rfl (lv_at hl 1 rfl) ?_
      refine va_get (D := D) (ci := 11) (v := .int 2) (C := RX11) (T := TX11) (N := 8) hx hb hT i_TX11 hown hK hP 0 rfl rfl 1 (by decide) (hT _ t_534) (fun _ h9 => h9) rfl dX11_feed_44 ?_
      refine lv_lload_n hx hb dX11_feed_47 rfl (lv_at hl 2 rfl) ?_
      refine lv_bipush (v := 8) hx hb dX11_feed_48 (by decide) ?_
      refine lv_iload hx hb dX11_feed_50 (lv_at hl 0 rfl) ?_
      refine lv_imul hx hb dX11_feed_52 ?_
      refine lv_topi (fun z105 e106 => ?_)
      obtain rfl : z105 = 8 := e106.trans (by first | decide | rfl)
      refine lv_lushr hx hb dX11_feed_53 rfl ?_
      refine lv_topl (fun z107 e108 => ?_)
      refine lv_l2i hx hb dX11_feed_54 rfl ?_
      refine lv_topi (fun z109 e110 => ?_)
      refine lv_i2b hx hb dX11_feed_55 rfl ?_
      refine lv_topi (fun z111 e112 => ?_)
      refine va_bast hx hb hK hP hD hS 1 0 rfl rfl (vp_in_iff.mpr (by decide)) dX11_feed_56 (fun H locs hP hD hS => ?_)
      have hP : va_P D vwCl [(hx0, .inr (11, [.ref (xa 0), .int 2, .int (-1), .ref (xa 1), .ref (xa 2), .ref (xa 3), .ref (xa 4), .ref (xa 5)])), ((xa 0), .inl (cy 0, 1600, .inl (upd f102 (2 : Int32).toNatClampNeg (vp_nar .byte z111))))] H := hP
      have hD : va_D A [(hx0, .inr (11, [.ref (xa 0), .int 2, .int (-1), .ref (xa 1), .ref (xa 2), .ref (xa 3), .ref (xa 4), .ref (xa 5)])), ((xa 0), .inl (cy 0, 1600, .inl (upd f102 (2 : Int32).toNatClampNeg (vp_nar .byte z111))))] := hD
      generalize hff113 : (upd f102 (2 : Int32).toNatClampNeg (vp_nar .byte z111)) = f113 at hP hD
      refine lv_aload_n hx hb dX11_feed_57 rfl (lv_at hl 1 rfl) ?_
      refine lv_dup hx hb dX11_feed_58 rfl ?_
      refine va_get (D := D) (ci := 11) (v := .int 2) (C := RX11) (T := TX11) (N := 8) hx hb hT i_TX11 hown hK hP 0 rfl rfl 1 (by decide) (hT _ t_534) (fun _ h9 => h9) rfl dX11_feed_59 ?_
      refine lv_iconst (v := 1) hx hb dX11_feed_62 (by decide) ?_
      refine lv_iadd hx hb dX11_feed_63 ?_
      refine lv_topi (fun z114 e115 => ?_)
      obtain rfl : z114 = 3 := e115.trans (by first | decide | rfl)
      refine va_put (D := D) (ci := 11) (v := .int 3) (ty := .int) (C := RX11) (T := TX11) (N := 8) hx hb hT i_TX11 tyX11 tyX11_ok nmX11 hown hK hP hD hS 0 rfl rfl 1 (by decide) (hT _ t_534) (fun _ h9 => h9) rfl (by decide +kernel) rfl rfl (Nat.le_of_ble_eq_true rfl) dX11_feed_64 (fun H locs hP hD hS => ?_)
      have hP : va_P D vwCl [(hx0, .inr (11, [.ref (xa 0), .int 3, .int (-1), .ref (xa 1), .ref (xa 2), .ref (xa 3), .ref (xa 4), .ref (xa 5)])), ((xa 0), .inl (cy 0, 1600, .inl f113))] H := hP
      have hD : va_D A [(hx0, .inr (11, [.ref (xa 0), .int 3, .int (-1), .ref (xa 1), .ref (xa 2), .ref (xa 3), .ref (xa 4), .ref (xa 5)])), ((xa 0), .inl (cy 0, 1600, .inl f113))] := hD
      refine lv_iinc (v := 0) (lv' := [(4, .int 0), (0, .ref hx0), (1, .long p0), (3, .int (nI 4))]) hx hb dX11_feed_67 hl (k := 0) rfl (by decide) (by decide) rfl (fun ls hl => ?_)
      refine lv_goto (tgt := 34) hx hb dX11_feed_70 (by decide) ?_
      refine lv_iload hx hb dX11_feed_34 (lv_at hl 0 rfl) ?_
      refine lv_if_lt (tgt := 73) hx hb dX11_feed_36 (by decide) (fun c9 => absurd c9 (by decide)) (fun _ => ?_)
      refine lv_aload_n hx hb dX11_feed_39 rfl (lv_at hl 1 rfl) ?_
      refine va_get (D := D) (ci := 11) (v := .ref (xa 0)) (C := RX11) (T := TX11) (N := 8) hx hb hT i_TX11 hown hK hP 0 rfl rfl 0 (by decide) (hT _ t_533) (fun _ h9 => h9) rfl dX11_feed_40 ?_
      refine lv_aload_n hx hb dX11_feed_43 rfl (lv_at hl 1 rfl) ?_
      refine va_get (D := D) (ci := 11) (v := .int 3) (C := RX11) (T := TX11) (N := 8) hx hb hT i_TX11 hown hK hP 0 rfl rfl 1 (by decide) (hT _ t_534) (fun _ h9 => h9) rfl dX11_feed_44 ?_
      refine lv_lload_n hx hb dX11_feed_47 rfl (lv_at hl 2 rfl) ?_
      refine lv_bipush (v := 8) hx hb dX11_feed_48 (by decide) ?_
      refine lv_iload hx hb dX11_feed_50 (lv_at hl 0 rfl) ?_
      refine lv_imul hx hb dX11_feed_52 ?_
      refine lv_topi (fun z116 e117 => ?_)
      obtain rfl : z116 = 0 := e117.trans (by first | decide | rfl)
      refine lv_lushr hx hb dX11_feed_53 rfl ?_
      refine lv_topl (fun z118 e119 => ?_)
      refine lv_l2i hx hb dX11_feed_54 rfl ?_
      refine lv_topi (fun z120 e121 => ?_)
      refine lv_i2b hx hb dX11_feed_55 rfl ?_
      refine lv_topi (fun z122 e123 => ?_)
      refine va_bast hx hb hK hP hD hS 1 0 rfl rfl (vp_in_iff.mpr (by decide)) dX11_feed_56 (fun H locs hP hD hS => ?_)
      have hP : va_P D vwCl [(hx0, .inr (11, [.ref (xa 0), .int 3, .int (-1), .ref (xa 1), .ref (xa 2), .ref (xa 3), .ref (xa 4), .ref (xa 5)])), ((xa 0), .inl (cy 0, 1600, .inl (upd f113 (3 : Int32).toNatClampNeg (vp_nar .byte z122))))] H := hP
      have hD : va_D A [(hx0, .inr (11, [.ref (xa 0), .int 3, .int (-1), .ref (xa 1), .ref (xa 2), .ref (xa 3), .ref (xa 4), .ref (xa 5)])), ((xa 0), .inl (cy 0, 1600, .inl (upd f113 (3 : Int32).toNatClampNeg (vp_nar .byte z122))))] := hD
      generalize hff124 : (upd f113 (3 : Int32).toNatClampNeg (vp_nar .byte z122)) = f124 at hP hD
      refine lv_aload_n hx hb dX11_feed_57 rfl (lv_at hl 1 rfl) ?_
      refine lv_dup hx hb dX11_feed_58 rfl ?_
      refine va_get (D := D) (ci := 11) (v := .int 3) (C := RX11) (T := TX11) (N := 8) hx hb hT i_TX11 hown hK hP 0 rfl rfl 1 (by decide) (hT _ t_534) (fun _ h9 => h9) rfl dX11_feed_59 ?_
      refine lv_iconst (v := 1) hx hb dX11_feed_62 (by decide) ?_
      refine lv_iadd hx hb dX11_feed_63 ?_
      refine lv_topi (fun z125 e126 => ?_)
      obtain rfl : z125 = 4 := e126.trans (by first | decide | rfl)
      refine va_put (D := D) (ci := 11) (v := .int 4) (ty := .int) (C := RX11) (T := TX11) (N := 8) hx hb hT i_TX11 tyX11 tyX11_ok nmX11 hown hK hP hD hS 0 rfl rfl 1 (by decide) (hT _ t_534) (fun _ h9 => h9) rfl (by decide +kernel) rfl rfl (Nat.le_of_ble_eq_true rfl) dX11_feed_64 (fun H locs hP hD hS => ?_)
      have hP : va_P D vwCl [(hx0, .inr (11, [.ref (xa 0), .int 4, .int (-1), .ref (xa 1), .ref (xa 2), .ref (xa 3), .ref (xa 4), .ref (xa 5)])), ((xa 0), .inl (cy 0, 1600, .inl f124))] H := hP
      have hD : va_D A [(hx0, .inr (11, [.ref (xa 0), .int 4, .int (-1), .ref (xa 1), .ref (xa 2), .ref (xa 3), .ref (xa 4), .ref (xa 5)])), ((xa 0), .inl (cy 0, 1600, .inl f124))] := hD
      refine lv_iinc (v := (-1)) (lv' := [(4, .int (-1)), (0, .ref hx0), (1, .long p0), (3, .int (nI 4))]) hx hb dX11_feed_67 hl (k := 0) rfl (by decide) (by decide) rfl (fun ls hl => ?_)
      refine lv_goto (tgt := 34) hx hb dX11_feed_70 (by decide) ?_
      refine lv_iload hx hb dX11_feed_34 (lv_at hl 0 rfl) ?_
      refine lv_if_lt (tgt := 73) hx hb dX11_feed_36 (by decide) (fun _ => ?_) (fun c9 => absurd (by decide) c9)
      refine lv_aload_n hx hb dX11_feed_73 rfl (lv_at hl 1 rfl) ?_
      refine va_get (D := D) (ci := 11) (v := .int 4) (C := RX11) (T := TX11) (N := 8) hx hb hT i_TX11 hown hK hP 0 rfl rfl 1 (by decide) (hT _ t_534) (fun _ h9 => h9) rfl dX11_feed_74 ?_
      have hP9 := hP.sub (ws' := []) [] rfl
      have hD9 := hD.sub (ws' := []) [] (by decide) rfl
      refine W.widen (k := 0) (n := 0) (Nat.le_of_ble_eq_true rfl) (Nat.le_of_ble_eq_true rfl) ?_
      exact W.iret (v := 4) hx hb hr (fun t ht hW => ⟨⟨4, (), rfl, (by decide), by rw [ht]; exact hP9, hD9⟩, hS.F ht⟩) hS.2.2 dX11_feed_77
    · refine lv_iload_n hx hb dX11_feed_0 rfl (lv_at hl 2 rfl) ?_
      refine lv_iconst (v := 1) hx hb dX11_feed_1 (by decide) ?_
      refine lv_icmp_lt (tgt := 11) hx hb dX11_feed_2 (by decide) (fun c9 => absurd c9 (by decide)) (fun _ => ?_)
      refine lv_iload_n hx hb dX11_feed_5 rfl (lv_at hl 2 rfl) ?_
      refine lv_bipush (v := 8) hx hb dX11_feed_6 (by decide) ?_
      refine lv_icmp_le (tgt := 14) hx hb dX11_feed_8 (by decide) (fun _ => ?_) (fun c9 => absurd (by decide) c9)
      refine lv_aload_n hx hb dX11_feed_14 rfl (lv_at hl 0 rfl) ?_
      refine va_get (D := D) (ci := 11) (v := .int 0) (C := RX11) (T := TX11) (N := 8) hx hb hT i_TX11 hown hK hP 0 rfl rfl 1 (by decide) (hT _ t_534) (fun _ h9 => h9) rfl dX11_feed_15 ?_
      refine lv_iload_n hx hb dX11_feed_18 rfl (lv_at hl 2 rfl) ?_
      refine lv_iadd hx hb dX11_feed_19 ?_
      refine lv_topi (fun z127 e128 => ?_)
      obtain rfl : z127 = 5 := e128.trans (by first | decide | rfl)
      refine lv_sipush (v := 1600) hx hb dX11_feed_20 (by decide) ?_
      refine lv_icmp_le (tgt := 29) hx hb dX11_feed_23 (by decide) (fun _ => ?_) (fun c9 => absurd (by decide) c9)
      refine lv_iload_n hx hb dX11_feed_29 rfl (lv_at hl 2 rfl) ?_
      refine lv_iconst (v := 1) hx hb dX11_feed_30 (by decide) ?_
      refine lv_isub hx hb dX11_feed_31 ?_
      refine lv_topi (fun z129 e130 => ?_)
      obtain rfl : z129 = 4 := e130.trans (by first | decide | rfl)
      refine lv_istore (lv' := [(4, .int 4), (0, .ref hx0), (1, .long p0), (3, .int (nI 5))]) hx hb dX11_feed_32 hl (by decide) rfl (fun ls hl => ?_)
      refine lv_iload hx hb dX11_feed_34 (lv_at hl 0 rfl) ?_
      refine lv_if_lt (tgt := 73) hx hb dX11_feed_36 (by decide) (fun c9 => absurd c9 (by decide)) (fun _ => ?_)
      refine lv_aload_n hx hb dX11_feed_39 rfl (lv_at hl 1 rfl) ?_
      refine va_get (D := D) (ci := 11) (v := .ref (xa 0)) (C := RX11) (T := TX11) (N := 8) hx hb hT i_TX11 hown hK hP 0 rfl rfl 0 (by decide) (hT _ t_533) (fun _ h9 => h9) rfl dX11_feed_40 ?_
      refine lv_aload_n hx hb dX11_feed_43 rfl (lv_at hl 1 rfl) ?_
      refine va_get (D := D) (ci := 11) (v := .int 0) (C := RX11) (T := TX11) (N := 8) hx hb hT i_TX11 hown hK hP 0 rfl rfl 1 (by decide) (hT _ t_534) (fun _ h9 => h9) rfl dX11_feed_44 ?_
      refine lv_lload_n hx hb dX11_feed_47 rfl (lv_at hl 2 rfl) ?_
      refine lv_bipush (v := 8) hx hb dX11_feed_48 (by decide) ?_
      refine lv_iload hx hb dX11_feed_50 (lv_at hl 0 rfl) ?_
      refine lv_imul hx hb dX11_feed_52 ?_
      refine lv_topi (fun z131 e132 => ?_)
      obtain rfl : z131 = 32 := e132.trans (by first | decide | rfl)
      refine lv_lushr hx hb dX11_feed_53 rfl ?_
      refine lv_topl (fun z133 e134 => ?_)
      refine lv_l2i hx hb dX11_feed_54 rfl ?_
      refine lv_topi (fun z135 e136 => ?_)
      refine lv_i2b hx hb dX11_feed_55 rfl ?_
      refine lv_topi (fun z137 e138 => ?_)
      refine va_bast hx hb hK hP hD hS 1 0 rfl rfl (vp_in_iff.mpr (by decide)) dX11_feed_56 (fun H locs hP hD hS => ?_)
      have hP : va_P D vwCl [(hx0, .inr (11, [.ref (xa 0), .int 0, .int (-1), .ref (xa 1), .ref (xa 2), .ref (xa 3), .ref (xa 4), .ref (xa 5)])), ((xa 0), .inl (cy 0, 1600, .inl (upd (fun _ => 0) (0 : Int32).toNatClampNeg (vp_nar .byte z137))))] H := hP
      have hD : va_D A [(hx0, .inr (11, [.ref (xa 0), .int 0, .int (-1), .ref (xa 1), .ref (xa 2), .ref (xa 3), .ref (xa 4), .ref (xa 5)])), ((xa 0), .inl (cy 0, 1600, .inl (upd (fun _ => 0) (0 : Int32).toNatClampNeg (vp_nar .byte z137))))] := hD
      generalize hff139 : (upd (fun _ => 0) (0 : Int32).toNatClampNeg (vp_nar .byte z137)) = f139 at hP hD
      refine lv_aload_n hx hb dX11_feed_57 rfl (lv_at hl 1 rfl) ?_
      refine lv_dup hx hb dX11_feed_58 rfl ?_
      refine va_get (D := D) (ci := 11) (v := .int 0) (C := RX11) (T := TX11) (N := 8) hx hb hT i_TX11 hown hK hP 0 rfl rfl 1 (by decide) (hT _ t_534) (fun _ h9 => h9) rfl dX11_feed_59 ?_
      refine lv_iconst (v := 1) hx hb dX11_feed_62 (by decide) ?_
      refine lv_iadd hx hb dX11_feed_63 ?_
      refine lv_topi (fun z140 e141 => ?_)
      obtain rfl : z140 = 1 := e141.trans (by first | decide | rfl)
      refine va_put (D := D) (ci := 11) (v := .int 1) (ty := .int) (C := RX11) (T := TX11) (N := 8) hx hb hT i_TX11 tyX11 tyX11_ok nmX11 hown hK hP hD hS 0 rfl rfl 1 (by decide) (hT _ t_534) (fun _ h9 => h9) rfl (by decide +kernel) rfl rfl (Nat.le_of_ble_eq_true rfl) dX11_feed_64 (fun H locs hP hD hS => ?_)
      have hP : va_P D vwCl [(hx0, .inr (11, [.ref (xa 0), .int 1, .int (-1), .ref (xa 1), .ref (xa 2), .ref (xa 3), .ref (xa 4), .ref (xa 5)])), ((xa 0), .inl (cy 0, 1600, .inl f139))] H := hP
      have hD : va_D A [(hx0, .inr (11, [.ref (xa 0), .int 1, .int (-1), .ref (xa 1), .ref (xa 2), .ref (xa 3), .ref (xa 4), .ref (xa 5)])), ((xa 0), .inl (cy 0, 1600, .inl f139))] := hD
      refine lv_iinc (v := 3) (lv' := [(4, .int 3), (0, .ref hx0), (1, .long p0), (3, .int (nI 5))]) hx hb dX11_feed_67 hl (k := 0) rfl (by decide) (by decide) rfl (fun ls hl => ?_)
      refine lv_goto (tgt := 34) hx hb dX11_feed_70 (by decide) ?_
      refine lv_iload hx hb dX11_feed_34 (lv_at hl 0 rfl) ?_
      refine lv_if_lt (tgt := 73) hx hb dX11_feed_36 (by decide) (fun c9 => absurd c9 (by decide)) (fun _ => ?_)
      refine lv_aload_n hx hb dX11_feed_39 rfl (lv_at hl 1 rfl) ?_
      refine va_get (D := D) (ci := 11) (v := .ref (xa 0)) (C := RX11) (T := TX11) (N := 8) hx hb hT i_TX11 hown hK hP 0 rfl rfl 0 (by decide) (hT _ t_533) (fun _ h9 => h9) rfl dX11_feed_40 ?_
      refine lv_aload_n hx hb dX11_feed_43 rfl (lv_at hl 1 rfl) ?_
      refine va_get (D := D) (ci := 11) (v := .int 1) (C := RX11) (T := TX11) (N := 8) hx hb hT i_TX11 hown hK hP 0 rfl rfl 1 (by decide) (hT _ t_534) (fun _ h9 => h9) rfl dX11_feed_44 ?_
      refine lv_lload_n hx hb dX11_feed_47 rfl (lv_at hl 2 rfl) ?_
      refine lv_bipush (v := 8) hx hb dX11_feed_48 (by decide) ?_
      refine lv_iload hx hb dX11_feed_50 (lv_at hl 0 rfl) ?_
      refine lv_imul hx hb dX11_feed_52 ?_
      refine lv_topi (fun z142 e143 => ?_)
      obtain rfl : z142 = 24 := e143.trans (by first | decide | rfl)
      refine lv_lushr hx hb dX11_feed_53 rfl ?_
      refine lv_topl (fun z144 e145 => ?_)
      refine lv_l2i hx hb dX11_feed_54 rfl ?_
      refine lv_topi (fun z146 e147 => ?_)
      refine lv_i2b hx hb dX11_feed_55 rfl ?_
      refine lv_topi (fun z148 e149 => ?_)
      refine va_bast hx hb hK hP hD hS 1 0 rfl rfl (vp_in_iff.mpr (by decide)) dX11_feed_56 (fun H locs hP hD hS => ?_)
      have hP : va_P D vwCl [(hx0, .inr (11, [.ref (xa 0), .int 1, .int (-1), .ref (xa 1), .ref (xa 2), .ref (xa 3), .ref (xa 4), .ref (xa 5)])), ((xa 0), .inl (cy 0, 1600, .inl (upd f139 (1 : Int32).toNatClampNeg (vp_nar .byte z148))))] H := hP
      have hD : va_D A [(hx0, .inr (11, [.ref (xa 0), .int 1, .int (-1), .ref (xa 1), .ref (xa 2), .ref (xa 3), .ref (xa 4), .ref (xa 5)])), ((xa 0), .inl (cy 0, 1600, .inl (upd f139 (1 : Int32).toNatClampNeg (vp_nar .byte z148))))] := hD
      generalize hff150 : (upd f139 (1 : Int32).toNatClampNeg (vp_nar .byte z148)) = f150 at hP hD
      refine lv_aload_n hx hb dX11_feed_57 rfl (lv_at hl 1 rfl) ?_
      refine lv_dup hx hb dX11_feed_58 rfl ?_
      refine va_get (D := D) (ci := 11) (v := .int 1) (C := RX11) (T := TX11) (N := 8) hx hb hT i_TX11 hown hK hP 0 rfl rfl 1 (by decide) (hT _ t_534) (fun _ h9 => h9) rfl dX11_feed_59 ?_
      refine lv_iconst (v := 1) hx hb dX11_feed_62 (by decide) ?_
      refine lv_iadd hx hb dX11_feed_63 ?_
      refine lv_topi (fun z151 e152 => ?_)
      obtain rfl : z151 = 2 := e152.trans (by first | decide | rfl)
      refine va_put (D := D) (ci := 11) (v := .int 2) (ty := .int) (C := RX11) (T := TX11) (N := 8) hx hb hT i_TX11 tyX11 tyX11_ok nmX11 hown hK hP hD hS 0 rfl rfl 1 (by decide) (hT _ t_534) (fun _ h9 => h9) rfl (by decide +kernel) rfl rfl (Nat.le_of_ble_eq_true rfl) dX11_feed_64 (fun H locs hP hD hS => ?_)
      have hP : va_P D vwCl [(hx0, .inr (11, [.ref (xa 0), .int 2, .int (-1), .ref (xa 1), .ref (xa 2), .ref (xa 3), .ref (xa 4), .ref (xa 5)])), ((xa 0), .inl (cy 0, 1600, .inl f150))] H := hP
      have hD : va_D A [(hx0, .inr (11, [.ref (xa 0), .int 2, .int (-1), .ref (xa 1), .ref (xa 2), .ref (xa 3), .ref (xa 4), .ref (xa 5)])), ((xa 0), .inl (cy 0, 1600, .inl f150))] := hD
      refine lv_iinc (v := 2) (lv' := [(4, .int 2), (0, .ref hx0), (1, .long p0), (3, .int (nI 5))]) hx hb dX11_feed_67 hl (k := 0) rfl (by decide) (by decide) rfl (fun ls hl => ?_)
      refine lv_goto (tgt := 34) hx hb dX11_feed_70 (by decide) ?_
      refine lv_iload hx hb dX11_feed_34 (lv_at hl 0 rfl) ?_
      refine lv_if_lt (tgt := 73) hx hb dX11_feed_36 (by decide) (fun c9 => absurd c9 (by decide)) (fun _ => ?_)
      refine lv_aload_n hx hb dX11_feed_39 rfl (lv_at hl 1 rfl) ?_
      refine va_get (D := D) (ci := 11) (v := .ref (xa 0)) (C := RX11) (T := TX11) (N := 8) hx hb hT i_TX11 hown hK hP 0 rfl rfl 0 (by decide) (hT _ t_533) (fun _ h9 => h9) rfl dX11_feed_40 ?_
      refine lv_aload_n hx hb dX11_feed_43 rfl (lv_at hl 1 rfl) ?_
      refine va_get (D := D) (ci := 11) (v := .int 2) (C := RX11) (T := TX11) (N := 8) hx hb hT i_TX11 hown hK hP 0 rfl rfl 1 (by decide) (hT _ t_534) (fun _ h9 => h9) rfl dX11_feed_44 ?_
      refine lv_lload_n hx hb dX11_feed_47 rfl (lv_at hl 2 rfl) ?_
      refine lv_bipush (v := 8) hx hb dX11_feed_48 (by decide) ?_
      refine lv_iload hx hb dX11_feed_50 (lv_at hl 0 rfl) ?_
      refine lv_imul hx hb dX11_feed_52 ?_
      refine lv_topi (fun z153 e154 => ?_)
      obtain rfl : z153 = 16 := e154.trans (by first | decide | rfl)
      refine lv_lushr hx hb dX11_feed_53 rfl ?_
      refine lv_topl (fun z155 e156 => ?_)
      refine lv_l2i hx hb dX11_feed_54 rfl ?_
      refine lv_topi (fun z157 e158 => ?_)
      refine lv_i2b hx hb dX11_feed_55 rfl ?_
      refine lv_topi (fun z159 e160 => ?_)
      refine va_bast hx hb hK hP hD hS 1 0 rfl rfl (vp_in_iff.mpr (by decide)) dX11_feed_56 (fun H locs hP hD hS => ?_)
      have hP : va_P D vwCl [(hx0, .inr (11, [.ref (xa 0), .int 2, .int (-1), .ref (xa 1), .ref (xa 2), .ref (xa 3), .ref (xa 4), .ref (xa 5)])), ((xa 0), .inl (cy 0, 1600, .inl (upd f150 (2 : Int32).toNatClampNeg (vp_nar .byte z159))))] H := hP
      have hD : va_D A [(hx0, .inr (11, [.ref (xa 0), .int 2, .int (-1), .ref (xa 1), .ref (xa 2), .ref (xa 3), .ref (xa 4), .ref (xa 5)])), ((xa 0), .inl (cy 0, 1600, .inl (upd f150 (2 : Int32).toNatClampNeg (vp_nar .byte z159))))] := hD
      generalize hff161 : (upd f150 (2 : Int32).toNatClampNeg (vp_nar .byte z159)) = f161 at hP hD
      refine lv_aload_n hx hb dX11_feed_57 rfl (lv_at hl 1 rfl) ?_
      refine lv_dup hx hb dX11_feed_58 rfl ?_
      refine va_get (D := D) (ci := 11) (v := .int 2) (C := RX11) (T := TX11) (N := 8) hx hb hT i_TX11 hown hK hP 0 rfl rfl 1 (by decide) (hT _ t_534) (fun _ h9 => h9) rfl dX11_feed_59 ?_
      refine lv_iconst (v := 1) hx hb dX11_feed_62 (by decide) ?_
      refine lv_iadd hx hb dX11_feed_63 ?_
      refine lv_topi (fun z162 e163 => ?_)
      obtain rfl : z162 = 3 := e163.trans (by first | decide | rfl)
      refine va_put (D := D) (ci := 11) (v := .int 3) (ty := .int) (C := RX11) (T := TX11) (N := 8) hx hb hT i_TX11 tyX11 tyX11_ok nmX11 hown hK hP hD hS 0 rfl rfl 1 (by decide) (hT _ t_534) (fun _ h9 => h9) rfl (by decide +kernel) rfl rfl (Nat.le_of_ble_eq_true rfl) dX11_feed_64 (fun H locs hP hD hS => ?_)
      have hP : va_P D vwCl [(hx0, .inr (11, [.ref (xa 0), .int 3, .int (-1), .ref (xa 1), .ref (xa 2), .ref (xa 3), .ref (xa 4), .ref (xa 5)])), ((xa 0), .inl (cy 0, 1600, .inl f161))] H := hP
      have hD : va_D A [(hx0, .inr (11, [.ref (xa 0), .int 3, .int (-1), .ref (xa 1), .ref (xa 2), .ref (xa 3), .ref (xa 4), .ref (xa 5)])), ((xa 0), .inl (cy 0, 1600, .inl f161))] := hD
      refine lv_iinc (v := 1) (lv' := [(4, .int 1), (0, .ref hx0), (1, .long p0), (3, .int (nI 5))]) hx hb dX11_feed_67 hl (k := 0) rfl (by decide) (by decide) rfl (fun ls hl => ?_)
      refine lv_goto (tgt := 34) hx hb dX11_feed_70 (by decide) ?_
      refine lv_iload hx hb dX11_feed_34 (lv_at hl 0 rfl) ?_
      refine lv_if_lt (tgt := 73) hx hb dX11_feed_36 (by decide) (fun c9 => absurd c9 (by decide)) (fun _ => ?_)
      refine lv_aload_n hx hb dX11_feed_39 rfl (lv_at hl 1 rfl) ?_
      refine va_get (D := D) (ci := 11) (v := .ref (xa 0)) (C := RX11) (T := TX11) (N := 8) hx hb hT i_TX11 hown hK hP 0 rfl rfl 0 (by decide) (hT _ t_533) (fun _ h9 => h9) rfl dX11_feed_40 ?_
      refine lv_aload_n hx hb dX11_feed_43 rfl (lv_at hl 1 rfl) ?_
      refine va_get (D := D) (ci := 11) (v := .int 3) (C := RX11) (T := TX11) (N := 8) hx hb hT i_TX11 hown hK hP 0 rfl rfl 1 (by decide) (hT _ t_534) (fun _ h9 => h9) rfl dX11_feed_44 ?_
      refine lv_lload_n hx hb dX11_feed_47 rfl (lv_at hl 2 rfl) ?_
      refine lv_bipush (v := 8) hx hb dX11_feed_48 (by decide) ?_
      refine lv_iload hx hb dX11_feed_50 (lv_at hl 0 rfl) ?_
      refine lv_imul hx hb dX11_feed_52 ?_
      refine lv_topi (fun z164 e165 => ?_)
      obtain rfl : z164 = 8 := e165.trans (by first | decide | rfl)
      refine lv_lushr hx hb dX11_feed_53 rfl ?_
      refine lv_topl (fun z166 e167 => ?_)
      refine lv_l2i hx hb dX11_feed_54 rfl ?_
      refine lv_topi (fun z168 e169 => ?_)
      refine lv_i2b hx hb dX11_feed_55 rfl ?_
      refine lv_topi (fun z170 e171 => ?_)
      refine va_bast hx hb hK hP hD hS 1 0 rfl rfl (vp_in_iff.mpr (by decide)) dX11_feed_56 (fun H locs hP hD hS => ?_)
      have hP : va_P D vwCl [(hx0, .inr (11, [.ref (xa 0), .int 3, .int (-1), .ref (xa 1), .ref (xa 2), .ref (xa 3), .ref (xa 4), .ref (xa 5)])), ((xa 0), .inl (cy 0, 1600, .inl (upd f161 (3 : Int32).toNatClampNeg (vp_nar .byte z170))))] H := hP
      have hD : va_D A [(hx0, .inr (11, [.ref (xa 0), .int 3, .int (-1), .ref (xa 1), .ref (xa 2), .ref (xa 3), .ref (xa 4), .ref (xa 5)])), ((xa 0), .inl (cy 0, 1600, .inl (upd f161 (3 : Int32).toNatClampNeg (vp_nar .byte z170))))] := hD
      generalize hff172 : (upd f161 (3 : Int32).toNatClampNeg (vp_nar .byte z170)) = f172 at hP hD
      refine lv_aload_n hx hb dX11_feed_57 rfl (lv_at hl 1 rfl) ?_
      refine lv_dup hx hb dX11_feed_58 rfl ?_
      refine va_get (D := D) (ci := 11) (v := .int 3) (C := RX11) (T := TX11) (N := 8) hx hb hT i_TX11 hown hK hP 0 rfl rfl 1 (by decide) (hT _ t_534) (fun _ h9 => h9) rfl dX11_feed_59 ?_
      refine lv_iconst (v := 1) hx hb dX11_feed_62 (by decide) ?_
      refine lv_iadd hx hb dX11_feed_63 ?_
      refine lv_topi (fun z173 e174 => ?_)
      obtain rfl : z173 = 4 := e174.trans (by first | decide | rfl)
      refine va_put (D := D) (ci := 11) (v := .int 4) (ty := .int) (C := RX11) (T := TX11) (N := 8) hx hb hT i_TX11 tyX11 tyX11_ok nmX11 hown hK hP hD hS 0 rfl rfl 1 (by decide) (hT _ t_534) (fun _ h9 => h9) rfl (by decide +kernel) rfl rfl (Nat.le_of_ble_eq_true rfl) dX11_feed_64 (fun H locs hP hD hS => ?_)
      have hP : va_P D vwCl [(hx0, .inr (11, [.ref (xa 0), .int 4, .int (-1), .ref (xa 1), .ref (xa 2), .ref (xa 3), .ref (xa 4), .ref (xa 5)])), ((xa 0), .inl (cy 0, 1600, .inl f172))] H := hP
      have hD : va_D A [(hx0, .inr (11, [.ref (xa 0), .int 4, .int (-1), .ref (xa 1), .ref (xa 2), .ref (xa 3), .ref (xa 4), .ref (xa 5)])), ((xa 0), .inl (cy 0, 1600, .inl f172))] := hD
      refine lv_iinc (v := 0) (lv' := [(4, .int 0), (0, .ref hx0), (1, .long p0), (3, .int (nI 5))]) hx hb dX11_feed_67 hl (k := 0) rfl (by decide) (by decide) rfl (fun ls hl => ?_)
      refine lv_goto (tgt := 34) hx hb dX11_feed_70 (by decide) ?_
      refine lv_iload hx hb dX11_feed_34 (lv_at hl 0 rfl) ?_
      refine lv_if_lt (tgt := 73) hx hb dX11_feed_36 (by decide) (fun c9 => absurd c9 (by decide)) (fun _ => ?_)
      refine lv_aload_n hx hb dX11_feed_39 rfl (lv_at hl 1 rfl) ?_
      refine va_get (D := D) (ci := 11) (v := .ref (xa 0)) (C := RX11) (T := TX11) (N := 8) hx hb hT i_TX11 hown hK hP 0 rfl rfl 0 (by decide) (hT _ t_533) (fun _ h9 => h9) rfl dX11_feed_40 ?_
      refine lv_aload_n hx hb dX11_feed_43 rfl (lv_at hl 1 rfl) ?_
      refine va_get (D := D) (ci := 11) (v := .int 4) (C := RX11) (T := TX11) (N := 8) hx hb hT i_TX11 hown hK hP 0 rfl rfl 1 (by decide) (hT _ t_534) (fun _ h9 => h9) rfl dX11_feed_44 ?_
      refine lv_lload_n hx hb dX11_feed_47 rfl (lv_at hl 2 rfl) ?_
      refine lv_bipush (v := 8) hx hb dX11_feed_48 (by decide) ?_
      refine lv_iload hx hb dX11_feed_50 (lv_at hl 0 rfl) ?_
      refine lv_imul hx hb dX11_feed_52 ?_
      refine lv_topi (fun z175 e176 => ?_)
      obtain rfl : z175 = 0 := e176.trans (by first | decide | rfl)
      refine lv_lushr hx hb dX11_feed_53 rfl ?_
      refine lv_topl (fun z177 e178 => ?_)
      refine lv_l2i hx hb dX11_feed_54 rfl ?_
      refine lv_topi (fun z179 e180 => ?_)
      refine lv_i2b hx hb dX11_feed_55 rfl ?_
      refine lv_topi (fun z181 e182 => ?_)
      refine va_bast hx hb hK hP hD hS 1 0 rfl rfl (vp_in_iff.mpr (by decide)) dX11_feed_56 (fun H locs hP hD hS => ?_)
      have hP : va_P D vwCl [(hx0, .inr (11, [.ref (xa 0), .int 4, .int (-1), .ref (xa 1), .ref (xa 2), .ref (xa 3), .ref (xa 4), .ref (xa 5)])), ((xa 0), .inl (cy 0, 1600, .inl (upd f172 (4 : Int32).toNatClampNeg (vp_nar .byte z181))))] H := hP
      have hD : va_D A [(hx0, .inr (11, [.ref (xa 0), .int 4, .int (-1), .ref (xa 1), .ref (xa 2), .ref (xa 3), .ref (xa 4), .ref (xa 5)])), ((xa 0), .inl (cy 0, 1600, .inl (upd f172 (4 : Int32).toNatClampNeg (vp_nar .byte z181))))] := hD
      generalize hff183 : (upd f172 (4 : Int32).toNatClampNeg (vp_nar .byte z181)) = f183 at hP hD
      refine lv_aload_n hx hb dX11_feed_57 rfl (lv_at hl 1 rfl) ?_
      refine lv_dup hx hb dX11_feed_58 rfl ?_
      refine va_get (D := D) (ci := 11) (v := .int 4) (C := RX11) (T := TX11) (N := 8) hx hb hT i_TX11 hown hK hP 0 rfl rfl 1 (by decide) (hT _ t_534) (fun _ h9 => h9) rfl dX11_feed_59 ?_
      refine lv_iconst (v := 1) hx hb dX11_feed_62 (by decide) ?_
      refine lv_iadd hx hb dX11_feed_63 ?_
      refine lv_topi (fun z184 e185 => ?_)
      obtain rfl : z184 = 5 := e185.trans (by first | decide | rfl)
      refine va_put (D := D) (ci := 11) (v := .int 5) (ty := .int) (C := RX11) (T := TX11) (N := 8) hx hb hT i_TX11 tyX11 tyX11_ok nmX11 hown hK hP hD hS 0 rfl rfl 1 (by decide) (hT _ t_534) (fun _ h9 => h9) rfl (by decide +kernel) rfl rfl (Nat.le_of_ble_eq_true rfl) dX11_feed_64 (fun H locs hP hD hS => ?_)
      have hP : va_P D vwCl [(hx0, .inr (11, [.ref (xa 0), .int 5, .int (-1), .ref (xa 1), .ref (xa 2), .ref (xa 3), .ref (xa 4), .ref (xa 5)])), ((xa 0), .inl (cy 0, 1600, .inl f183))] H := hP
      have hD : va_D A [(hx0, .inr (11, [.ref (xa 0), .int 5, .int (-1), .ref (xa 1), .ref (xa 2), .ref (xa 3), .ref (xa 4), .ref (xa 5)])), ((xa 0), .inl (cy 0, 1600, .inl f183))] := hD
      refine lv_iinc (v := (-1)) (lv' := [(4, .int (-1)), (0, .ref hx0), (1, .long p0), (3, .int (nI 5))]) hx hb dX11_feed_67 hl (k := 0) rfl (by decide) (by decide) rfl (fun ls hl => ?_)
      refine lv_goto (tgt := 34) hx hb dX11_feed_70 (by decide) ?_
      refine lv_iload hx hb dX11_feed_34 (lv_at hl 0 rfl) ?_
      refine lv_if_lt (tgt := 73) hx hb dX11_feed_36 (by decide) (fun _ => ?_) (fun c9 => absurd (by decide) c9)
      refine lv_aload_n hx hb dX11_feed_73 rfl (lv_at hl 1 rfl) ?_
      refine va_get (D := D) (ci := 11) (v := .int 5) (C := RX11) (T := TX11) (N := 8) hx hb hT i_TX11 hown hK hP 0 rfl rfl 1 (by decide) (hT _ t_534) (fun _ h9 => h9) rfl dX11_feed_74 ?_
      have hP9 := hP.sub (ws' := []) [] rfl
      have hD9 := hD.sub (ws' := []) [] (by decide) rfl
      refine W.widen (k := 0) (n := 0) (Nat.le_of_ble_eq_true rfl) (Nat.le_of_ble_eq_true rfl) ?_
      exact W.iret (v := 5) hx hb hr (fun t ht hW => ⟨⟨5, (), rfl, (by decide), by rw [ht]; exact hP9, hD9⟩, hS.F ht⟩) hS.2.2 dX11_feed_77
    · refine lv_iload_n hx hb dX11_feed_0 rfl (lv_at hl 2 rfl) ?_
      refine lv_iconst (v := 1) hx hb dX11_feed_1 (by decide) ?_
      refine lv_icmp_lt (tgt := 11) hx hb dX11_feed_2 (by decide) (fun c9 => absurd c9 (by decide)) (fun _ => ?_)
      refine lv_iload_n hx hb dX11_feed_5 rfl (lv_at hl 2 rfl) ?_
      refine lv_bipush (v := 8) hx hb dX11_feed_6 (by decide) ?_
      refine lv_icmp_le (tgt := 14) hx hb dX11_feed_8 (by decide) (fun _ => ?_) (fun c9 => absurd (by decide) c9)
      refine lv_aload_n hx hb dX11_feed_14 rfl (lv_at hl 0 rfl) ?_
      refine va_get (D := D) (ci := 11) (v := .int 0) (C := RX11) (T := TX11) (N := 8) hx hb hT i_TX11 hown hK hP 0 rfl rfl 1 (by decide) (hT _ t_534) (fun _ h9 => h9) rfl dX11_feed_15 ?_
      refine lv_iload_n hx hb dX11_feed_18 rfl (lv_at hl 2 rfl) ?_
      refine lv_iadd hx hb dX11_feed_19 ?_
      refine lv_topi (fun z186 e187 => ?_)
      obtain rfl : z186 = 6 := e187.trans (by first | decide | rfl)
      refine lv_sipush (v := 1600) hx hb dX11_feed_20 (by decide) ?_
      refine lv_icmp_le (tgt := 29) hx hb dX11_feed_23 (by decide) (fun _ => ?_) (fun c9 => absurd (by decide) c9)
      refine lv_iload_n hx hb dX11_feed_29 rfl (lv_at hl 2 rfl) ?_
      refine lv_iconst (v := 1) hx hb dX11_feed_30 (by decide) ?_
      refine lv_isub hx hb dX11_feed_31 ?_
      refine lv_topi (fun z188 e189 => ?_)
      obtain rfl : z188 = 5 := e189.trans (by first | decide | rfl)
      refine lv_istore (lv' := [(4, .int 5), (0, .ref hx0), (1, .long p0), (3, .int (nI 6))]) hx hb dX11_feed_32 hl (by decide) rfl (fun ls hl => ?_)
      refine lv_iload hx hb dX11_feed_34 (lv_at hl 0 rfl) ?_
      refine lv_if_lt (tgt := 73) hx hb dX11_feed_36 (by decide) (fun c9 => absurd c9 (by decide)) (fun _ => ?_)
      refine lv_aload_n hx hb dX11_feed_39 rfl (lv_at hl 1 rfl) ?_
      refine va_get (D := D) (ci := 11) (v := .ref (xa 0)) (C := RX11) (T := TX11) (N := 8) hx hb hT i_TX11 hown hK hP 0 rfl rfl 0 (by decide) (hT _ t_533) (fun _ h9 => h9) rfl dX11_feed_40 ?_
      refine lv_aload_n hx hb dX11_feed_43 rfl (lv_at hl 1 rfl) ?_
      refine va_get (D := D) (ci := 11) (v := .int 0) (C := RX11) (T := TX11) (N := 8) hx hb hT i_TX11 hown hK hP 0 rfl rfl 1 (by decide) (hT _ t_534) (fun _ h9 => h9) rfl dX11_feed_44 ?_
      refine lv_lload_n hx hb dX11_feed_47 rfl (lv_at hl 2 rfl) ?_
      refine lv_bipush (v := 8) hx hb dX11_feed_48 (by decide) ?_
      refine lv_iload hx hb dX11_feed_50 (lv_at hl 0 rfl) ?_
      refine lv_imul hx hb dX11_feed_52 ?_
      refine lv_topi (fun z190 e191 => ?_)
      obtain rfl : z190 = 40 := e191.trans (by first | decide | rfl)
      refine lv_lushr hx hb dX11_feed_53 rfl ?_
      refine lv_topl (fun z192 e193 => ?_)
      refine lv_l2i hx hb dX11_feed_54 rfl ?_
      refine lv_topi (fun z194 e195 => ?_)
      refine lv_i2b hx hb dX11_feed_55 rfl ?_
      refine lv_topi (fun z196 e197 => ?_)
      refine va_bast hx hb hK hP hD hS 1 0 rfl rfl (vp_in_iff.mpr (by decide)) dX11_feed_56 (fun H locs hP hD hS => ?_)
      have hP : va_P D vwCl [(hx0, .inr (11, [.ref (xa 0), .int 0, .int (-1), .ref (xa 1), .ref (xa 2), .ref (xa 3), .ref (xa 4), .ref (xa 5)])), ((xa 0), .inl (cy 0, 1600, .inl (upd (fun _ => 0) (0 : Int32).toNatClampNeg (vp_nar .byte z196))))] H := hP
      have hD : va_D A [(hx0, .inr (11, [.ref (xa 0), .int 0, .int (-1), .ref (xa 1), .ref (xa 2), .ref (xa 3), .ref (xa 4), .ref (xa 5)])), ((xa 0), .inl (cy 0, 1600, .inl (upd (fun _ => 0) (0 : Int32).toNatClampNeg (vp_nar .byte z196))))] := hD
      generalize hff198 : (upd (fun _ => 0) (0 : Int32).toNatClampNeg (vp_nar .byte z196)) = f198 at hP hD
      refine lv_aload_n hx hb dX11_feed_57 rfl (lv_at hl 1 rfl) ?_
      refine lv_dup hx hb dX11_feed_58 rfl ?_
      refine va_get (D := D) (ci := 11) (v := .int 0) (C := RX11) (T := TX11) (N := 8) hx hb hT i_TX11 hown hK hP 0 rfl rfl 1 (by decide) (hT _ t_534) (fun _ h9 => h9) rfl dX11_feed_59 ?_
      refine lv_iconst (v := 1) hx hb dX11_feed_62 (by decide) ?_
      refine lv_iadd hx hb dX11_feed_63 ?_
      refine lv_topi (fun z199 e200 => ?_)
      obtain rfl : z199 = 1 := e200.trans (by first | decide | rfl)
      refine va_put (D := D) (ci := 11) (v := .int 1) (ty := .int) (C := RX11) (T := TX11) (N := 8) hx hb hT i_TX11 tyX11 tyX11_ok nmX11 hown hK hP hD hS 0 rfl rfl 1 (by decide) (hT _ t_534) (fun _ h9 => h9) rfl (by decide +kernel) rfl rfl (Nat.le_of_ble_eq_true rfl) dX11_feed_64 (fun H locs hP hD hS => ?_)
      have hP : va_P D vwCl [(hx0, .inr (11, [.ref (xa 0), .int 1, .int (-1), .ref (xa 1), .ref (xa 2), .ref (xa 3), .ref (xa 4), .ref (xa 5)])), ((xa 0), .inl (cy 0, 1600, .inl f198))] H := hP
      have hD : va_D A [(hx0, .inr (11, [.ref (xa 0), .int 1, .int (-1), .ref (xa 1), .ref (xa 2), .ref (xa 3), .ref (xa 4), .ref (xa 5)])), ((xa 0), .inl (cy 0, 1600, .inl f198))] := hD
      refine lv_iinc (v := 4) (lv' := [(4, .int 4), (0, .ref hx0), (1, .long p0), (3, .int (nI 6))]) hx hb dX11_feed_67 hl (k := 0) rfl (by decide) (by decide) rfl (fun ls hl => ?_)
      refine lv_goto (tgt := 34) hx hb dX11_feed_70 (by decide) ?_
      refine lv_iload hx hb dX11_feed_34 (lv_at hl 0 rfl) ?_
      refine lv_if_lt (tgt := 73) hx hb dX11_feed_36 (by decide) (fun c9 => absurd c9 (by decide)) (fun _ => ?_)
      refine lv_aload_n hx hb dX11_feed_39 rfl (lv_at hl 1 rfl) ?_
      refine va_get (D := D) (ci := 11) (v := .ref (xa 0)) (C := RX11) (T := TX11) (N := 8) hx hb hT i_TX11 hown hK hP 0 rfl rfl 0 (by decide) (hT _ t_533) (fun _ h9 => h9) rfl dX11_feed_40 ?_
      refine lv_aload_n hx hb dX11_feed_43 rfl (lv_at hl 1 rfl) ?_
      refine va_get (D := D) (ci := 11) (v := .int 1) (C := RX11) (T := TX11) (N := 8) hx hb hT i_TX11 hown hK hP 0 rfl rfl 1 (by decide) (hT _ t_534) (fun _ h9 => h9) rfl dX11_feed_44 ?_
      refine lv_lload_n hx hb dX11_feed_47 rfl (lv_at hl 2 rfl) ?_
      refine lv_bipush (v := 8) hx hb dX11_feed_48 (by decide) ?_
      refine lv_iload hx hb dX11_feed_50 (lv_at hl 0 rfl) ?_
      refine lv_imul hx hb dX11_feed_52 ?_
      refine lv_topi (fun z201 e202 => ?_)
      obtain rfl : z201 = 32 := e202.trans (by first | decide | rfl)
      refine lv_lushr hx hb dX11_feed_53 rfl ?_
      refine lv_topl (fun z203 e204 => ?_)
      refine lv_l2i hx hb dX11_feed_54 rfl ?_
      refine lv_topi (fun z205 e206 => ?_)
      refine lv_i2b hx hb dX11_feed_55 rfl ?_
      refine lv_topi (fun z207 e208 => ?_)
      refine va_bast hx hb hK hP hD hS 1 0 rfl rfl (vp_in_iff.mpr (by decide)) dX11_feed_56 (fun H locs hP hD hS => ?_)
      have hP : va_P D vwCl [(hx0, .inr (11, [.ref (xa 0), .int 1, .int (-1), .ref (xa 1), .ref (xa 2), .ref (xa 3), .ref (xa 4), .ref (xa 5)])), ((xa 0), .inl (cy 0, 1600, .inl (upd f198 (1 : Int32).toNatClampNeg (vp_nar .byte z207))))] H := hP
      have hD : va_D A [(hx0, .inr (11, [.ref (xa 0), .int 1, .int (-1), .ref (xa 1), .ref (xa 2), .ref (xa 3), .ref (xa 4), .ref (xa 5)])), ((xa 0), .inl (cy 0, 1600, .inl (upd f198 (1 : Int32).toNatClampNeg (vp_nar .byte z207))))] := hD
      generalize hff209 : (upd f198 (1 : Int32).toNatClampNeg (vp_nar .byte z207)) = f209 at hP hD
      refine lv_aload_n hx hb dX11_feed_57 rfl (lv_at hl 1 rfl) ?_
      refine lv_dup hx hb dX11_feed_58 rfl ?_
      refine va_get (D := D) (ci := 11) (v := .int 1) (C := RX11) (T := TX11) (N := 8) hx hb hT i_TX11 hown hK hP 0 rfl rfl 1 (by decide) (hT _ t_534) (fun _ h9 => h9) rfl dX11_feed_59 ?_
      refine lv_iconst (v := 1) hx hb dX11_feed_62 (by decide) ?_
      refine lv_iadd hx hb dX11_feed_63 ?_
      refine lv_topi (fun z210 e211 => ?_)
      obtain rfl : z210 = 2 := e211.trans (by first | decide | rfl)
      refine va_put (D := D) (ci := 11) (v := .int 2) (ty := .int) (C := RX11) (T := TX11) (N := 8) hx hb hT i_TX11 tyX11 tyX11_ok nmX11 hown hK hP hD hS 0 rfl rfl 1 (by decide) (hT _ t_534) (fun _ h9 => h9) rfl (by decide +kernel) rfl rfl (Nat.le_of_ble_eq_true rfl) dX11_feed_64 (fun H locs hP hD hS => ?_)
      have hP : va_P D vwCl [(hx0, .inr (11, [.ref (xa 0), .int 2, .int (-1), .ref (xa 1), .ref (xa 2), .ref (xa 3), .ref (xa 4), .ref (xa 5)])), ((xa 0), .inl (cy 0, 1600, .inl f209))] H := hP
      have hD : va_D A [(hx0, .inr (11, [.ref (xa 0), .int 2, .int (-1), .ref (xa 1), .ref (xa 2), .ref (xa 3), .ref (xa 4), .ref (xa 5)])), ((xa 0), .inl (cy 0, 1600, .inl f209))] := hD
      refine lv_iinc (v := 3) (lv' := [(4, .int 3), (0, .ref hx0), (1, .long p0), (3, .int (nI 6))]) hx hb dX11_feed_67 hl (k := 0) rfl (by decide) (by decide) rfl (fun ls hl => ?_)
      refine lv_goto (tgt := 34) hx hb dX11_feed_70 (by decide) ?_
      refine lv_iload hx hb dX11_feed_34 (lv_at hl 0 rfl) ?_
      refine lv_if_lt (tgt := 73) hx hb dX11_feed_36 (by decide) (fun c9 => absurd c9 (by decide)) (fun _ => ?_)
      refine lv_aload_n hx hb dX11_feed_39 rfl (lv_at hl 1 rfl) ?_
      refine va_get (D := D) (ci := 11) (v := .ref (xa 0)) (C := RX11) (T := TX11) (N := 8) hx hb hT i_TX11 hown hK hP 0 rfl rfl 0 (by decide) (hT _ t_533) (fun _ h9 => h9) rfl dX11_feed_40 ?_
      refine lv_aload_n hx hb dX11_feed_43 rfl (lv_at hl 1 rfl) ?_
      refine va_get (D := D) (ci := 11) (v := .int 2) (C := RX11) (T := TX11) (N := 8) hx hb hT i_TX11 hown hK hP 0 rfl rfl 1 (by decide) (hT _ t_534) (fun _ h9 => h9) rfl dX11_feed_44 ?_
      refine lv_lload_n hx hb dX11_feed_47 rfl (lv_at hl 2 rfl) ?_
      refine lv_bipush (v := 8) hx hb dX11_feed_48 (by decide) ?_
      refine lv_iload hx hb dX11_feed_50 (lv_at hl 0 rfl) ?_
      refine lv_imul hx hb dX11_feed_52 ?_
      refine lv_topi (fun z212 e213 => ?_)
      obtain rfl : z212 = 24 := e213.trans (by first | decide | rfl)
      refine lv_lushr hx hb dX11_feed_53 rfl ?_
      refine lv_topl (fun z214 e215 => ?_)
      refine lv_l2i hx hb dX11_feed_54 rfl ?_
      refine lv_topi (fun z216 e217 => ?_)
      refine lv_i2b hx hb dX11_feed_55 rfl ?_
      refine lv_topi (fun z218 e219 => ?_)
      refine va_bast hx hb hK hP hD hS 1 0 rfl rfl (vp_in_iff.mpr (by decide)) dX11_feed_56 (fun H locs hP hD hS => ?_)
      have hP : va_P D vwCl [(hx0, .inr (11, [.ref (xa 0), .int 2, .int (-1), .ref (xa 1), .ref (xa 2), .ref (xa 3), .ref (xa 4), .ref (xa 5)])), ((xa 0), .inl (cy 0, 1600, .inl (upd f209 (2 : Int32).toNatClampNeg (vp_nar .byte z218))))] H := hP
      have hD : va_D A [(hx0, .inr (11, [.ref (xa 0), .int 2, .int (-1), .ref (xa 1), .ref (xa 2), .ref (xa 3), .ref (xa 4), .ref (xa 5)])), ((xa 0), .inl (cy 0, 1600, .inl (upd f209 (2 : Int32).toNatClampNeg (vp_nar .byte z218))))] := hD
      generalize hff220 : (upd f209 (2 : Int32).toNatClampNeg (vp_nar .byte z218)) = f220 at hP hD
      refine lv_aload_n hx hb dX11_feed_57 rfl (lv_at hl 1 rfl) ?_
      refine lv_dup hx hb dX11_feed_58 rfl ?_
      refine va_get (D := D) (ci := 11) (v := .int 2) (C := RX11) (T := TX11) (N := 8) hx hb hT i_TX11 hown hK hP 0 rfl rfl 1 (by decide) (hT _ t_534) (fun _ h9 => h9) rfl dX11_feed_59 ?_
      refine lv_iconst (v := 1) hx hb dX11_feed_62 (by decide) ?_
      refine lv_iadd hx hb dX11_feed_63 ?_
      refine lv_topi (fun z221 e222 => ?_)
      obtain rfl : z221 = 3 := e222.trans (by first | decide | rfl)
      refine va_put (D := D) (ci := 11) (v := .int 3) (ty := .int) (C := RX11) (T := TX11) (N := 8) hx hb hT i_TX11 tyX11 tyX11_ok nmX11 hown hK hP hD hS 0 rfl rfl 1 (by decide) (hT _ t_534) (fun _ h9 => h9) rfl (by decide +kernel) rfl rfl (Nat.le_of_ble_eq_true rfl) dX11_feed_64 (fun H locs hP hD hS => ?_)
      have hP : va_P D vwCl [(hx0, .inr (11, [.ref (xa 0), .int 3, .int (-1), .ref (xa 1), .ref (xa 2), .ref (xa 3), .ref (xa 4), .ref (xa 5)])), ((xa 0), .inl (cy 0, 1600, .inl f220))] H := hP
      have hD : va_D A [(hx0, .inr (11, [.ref (xa 0), .int 3, .int (-1), .ref (xa 1), .ref (xa 2), .ref (xa 3), .ref (xa 4), .ref (xa 5)])), ((xa 0), .inl (cy 0, 1600, .inl f220))] := hD
      refine lv_iinc (v := 2) (lv' := [(4, .int 2), (0, .ref hx0), (1, .long p0), (3, .int (nI 6))]) hx hb dX11_feed_67 hl (k := 0) rfl (by decide) (by decide) rfl (fun ls hl => ?_)
      refine lv_goto (tgt := 34) hx hb dX11_feed_70 (by decide) ?_
      refine lv_iload hx hb dX11_feed_34 (lv_at hl 0 rfl) ?_
      refine lv_if_lt (tgt := 73) hx hb dX11_feed_36 (by decide) (fun c9 => absurd c9 (by decide)) (fun _ => ?_)
      refine lv_aload_n hx hb dX11_feed_39 rfl (lv_at hl 1 rfl) ?_
      refine va_get (D := D) (ci := 11) (v := .ref (xa 0)) (C := RX11) (T := TX11) (N := 8) hx hb hT i_TX11 hown hK hP 0 rfl rfl 0 (by decide) (hT _ t_533) (fun _ h9 => h9) rfl dX11_feed_40 ?_
      refine lv_aload_n hx hb dX11_feed_43 rfl (lv_at hl 1 rfl) ?_
      refine va_get (D := D) (ci := 11) (v := .int 3) (C := RX11) (T := TX11) (N := 8) hx hb hT i_TX11 hown hK hP 0 rfl rfl 1 (by decide) (hT _ t_534) (fun _ h9 => h9) rfl dX11_feed_44 ?_
      refine lv_lload_n hx hb dX11_feed_47 rfl (lv_at hl 2 rfl) ?_
      refine lv_bipush (v := 8) hx hb dX11_feed_48 (by decide) ?_
      refine lv_iload hx hb dX11_feed_50 (lv_at hl 0 rfl) ?_
      refine lv_imul hx hb dX11_feed_52 ?_
      refine lv_topi (fun z223 e224 => ?_)
      obtain rfl : z223 = 16 := e224.trans (by first | decide | rfl)
      refine lv_lushr hx hb dX11_feed_53 rfl ?_
      refine lv_topl (fun z225 e226 => ?_)
      refine lv_l2i hx hb dX11_feed_54 rfl ?_
      refine lv_topi (fun z227 e228 => ?_)
      refine lv_i2b hx hb dX11_feed_55 rfl ?_
      refine lv_topi (fun z229 e230 => ?_)
      refine va_bast hx hb hK hP hD hS 1 0 rfl rfl (vp_in_iff.mpr (by decide)) dX11_feed_56 (fun H locs hP hD hS => ?_)
      have hP : va_P D vwCl [(hx0, .inr (11, [.ref (xa 0), .int 3, .int (-1), .ref (xa 1), .ref (xa 2), .ref (xa 3), .ref (xa 4), .ref (xa 5)])), ((xa 0), .inl (cy 0, 1600, .inl (upd f220 (3 : Int32).toNatClampNeg (vp_nar .byte z229))))] H := hP
      have hD : va_D A [(hx0, .inr (11, [.ref (xa 0), .int 3, .int (-1), .ref (xa 1), .ref (xa 2), .ref (xa 3), .ref (xa 4), .ref (xa 5)])), ((xa 0), .inl (cy 0, 1600, .inl (upd f220 (3 : Int32).toNatClampNeg (vp_nar .byte z229))))] := hD
      generalize hff231 : (upd f220 (3 : Int32).toNatClampNeg (vp_nar .byte z229)) = f231 at hP hD
      refine lv_aload_n hx hb dX11_feed_57 rfl (lv_at hl 1 rfl) ?_
      refine lv_dup hx hb dX11_feed_58 rfl ?_
      refine va_get (D := D) (ci := 11) (v := .int 3) (C := RX11) (T := TX11) (N := 8) hx hb hT i_TX11 hown hK hP 0 rfl rfl 1 (by decide) (hT _ t_534) (fun _ h9 => h9) rfl dX11_feed_59 ?_
      refine lv_iconst (v := 1) hx hb dX11_feed_62 (by decide) ?_
      refine lv_iadd hx hb dX11_feed_63 ?_
      refine lv_topi (fun z232 e233 => ?_)
      obtain rfl : z232 = 4 := e233.trans (by first | decide | rfl)
      refine va_put (D := D) (ci := 11) (v := .int 4) (ty := .int) (C := RX11) (T := TX11) (N := 8) hx hb hT i_TX11 tyX11 tyX11_ok nmX11 hown hK hP hD hS 0 rfl rfl 1 (by decide) (hT _ t_534) (fun _ h9 => h9) rfl (by decide +kernel) rfl rfl (Nat.le_of_ble_eq_true rfl) dX11_feed_64 (fun H locs hP hD hS => ?_)
      have hP : va_P D vwCl [(hx0, .inr (11, [.ref (xa 0), .int 4, .int (-1), .ref (xa 1), .ref (xa 2), .ref (xa 3), .ref (xa 4), .ref (xa 5)])), ((xa 0), .inl (cy 0, 1600, .inl f231))] H := hP
      have hD : va_D A [(hx0, .inr (11, [.ref (xa 0), .int 4, .int (-1), .ref (xa 1), .ref (xa 2), .ref (xa 3), .ref (xa 4), .ref (xa 5)])), ((xa 0), .inl (cy 0, 1600, .inl f231))] := hD
      refine lv_iinc (v := 1) (lv' := [(4, .int 1), (0, .ref hx0), (1, .long p0), (3, .int (nI 6))]) hx hb dX11_feed_67 hl (k := 0) rfl (by decide) (by decide) rfl (fun ls hl => ?_)
      refine lv_goto (tgt := 34) hx hb dX11_feed_70 (by decide) ?_
      refine lv_iload hx hb dX11_feed_34 (lv_at hl 0 rfl) ?_
      refine lv_if_lt (tgt := 73) hx hb dX11_feed_36 (by decide) (fun c9 => absurd c9 (by decide)) (fun _ => ?_)
      refine lv_aload_n hx hb dX11_feed_39 rfl (lv_at hl 1 rfl) ?_
      refine va_get (D := D) (ci := 11) (v := .ref (xa 0)) (C := RX11) (T := TX11) (N := 8) hx hb hT i_TX11 hown hK hP 0 rfl rfl 0 (by decide) (hT _ t_533) (fun _ h9 => h9) rfl dX11_feed_40 ?_
      refine lv_aload_n hx hb dX11_feed_43 rfl (lv_at hl 1 rfl) ?_
      refine va_get (D := D) (ci := 11) (v := .int 4) (C := RX11) (T := TX11) (N := 8) hx hb hT i_TX11 hown hK hP 0 rfl rfl 1 (by decide) (hT _ t_534) (fun _ h9 => h9) rfl dX11_feed_44 ?_
      refine lv_lload_n hx hb dX11_feed_47 rfl (lv_at hl 2 rfl) ?_
      refine lv_bipush (v := 8) hx hb dX11_feed_48 (by decide) ?_
      refine lv_iload hx hb dX11_feed_50 (lv_at hl 0 rfl) ?_
      refine lv_imul hx hb dX11_feed_52 ?_
      refine lv_topi (fun z234 e235 => ?_)
      obtain rfl : z234 = 8 := e235.trans (by first | decide | rfl)
      refine lv_lushr hx hb dX11_feed_53 rfl ?_
      refine lv_topl (fun z236 e237 => ?_)
      refine lv_l2i hx hb dX11_feed_54 rfl ?_
      refine lv_topi (fun z238 e239 => ?_)
      refine lv_i2b hx hb dX11_feed_55 rfl ?_
      refine lv_topi (fun z240 e241 => ?_)
      refine va_bast hx hb hK hP hD hS 1 0 rfl rfl (vp_in_iff.mpr (by decide)) dX11_feed_56 (fun H locs hP hD hS => ?_)
      have hP : va_P D vwCl [(hx0, .inr (11, [.ref (xa 0), .int 4, .int (-1), .ref (xa 1), .ref (xa 2), .ref (xa 3), .ref (xa 4), .ref (xa 5)])), ((xa 0), .inl (cy 0, 1600, .inl (upd f231 (4 : Int32).toNatClampNeg (vp_nar .byte z240))))] H := hP
      have hD : va_D A [(hx0, .inr (11, [.ref (xa 0), .int 4, .int (-1), .ref (xa 1), .ref (xa 2), .ref (xa 3), .ref (xa 4), .ref (xa 5)])), ((xa 0), .inl (cy 0, 1600, .inl (upd f231 (4 : Int32).toNatClampNeg (vp_nar .byte z240))))] := hD
      generalize hff242 : (upd f231 (4 : Int32).toNatClampNeg (vp_nar .byte z240)) = f242 at hP hD
      refine lv_aload_n hx hb dX11_feed_57 rfl (lv_at hl 1 rfl) ?_
      refine lv_dup hx hb dX11_feed_58 rfl ?_
      refine va_get (D := D) (ci := 11) (v := .int 4) (C := RX11) (T := TX11) (N := 8) hx hb hT i_TX11 hown hK hP 0 rfl rfl 1 (by decide) (hT _ t_534) (fun _ h9 => h9) rfl dX11_feed_59 ?_
      refine lv_iconst (v := 1) hx hb dX11_feed_62 (by decide) ?_
      refine lv_iadd hx hb dX11_feed_63 ?_
      refine lv_topi (fun z243 e244 => ?_)
      obtain rfl : z243 = 5 := e244.trans (by first | decide | rfl)
      refine va_put (D := D) (ci := 11) (v := .int 5) (ty := .int) (C := RX11) (T := TX11) (N := 8) hx hb hT i_TX11 tyX11 tyX11_ok nmX11 hown hK hP hD hS 0 rfl rfl 1 (by decide) (hT _ t_534) (fun _ h9 => h9) rfl (by decide +kernel) rfl rfl (Nat.le_of_ble_eq_true rfl) dX11_feed_64 (fun H locs hP hD hS => ?_)
      have hP : va_P D vwCl [(hx0, .inr (11, [.ref (xa 0), .int 5, .int (-1), .ref (xa 1), .ref (xa 2), .ref (xa 3), .ref (xa 4), .ref (xa 5)])), ((xa 0), .inl (cy 0, 1600, .inl f242))] H := hP
      have hD : va_D A [(hx0, .inr (11, [.ref (xa 0), .int 5, .int (-1), .ref (xa 1), .ref (xa 2), .ref (xa 3), .ref (xa 4), .ref (xa 5)])), ((xa 0), .inl (cy 0, 1600, .inl f242))] := hD
      refine lv_iinc (v := 0) (lv' := [(4, .int 0), (0, .ref hx0), (1, .long p0), (3, .int (nI 6))]) hx hb dX11_feed_67 hl (k := 0) rfl (by decide) (by decide) rfl (fun ls hl => ?_)
      refine lv_goto (tgt := 34) hx hb dX11_feed_70 (by decide) ?_
      refine lv_iload hx hb dX11_feed_34 (lv_at hl 0 rfl) ?_
      refine lv_if_lt (tgt := 73) hx hb dX11_feed_36 (by decide) (fun c9 => absurd c9 (by decide)) (fun _ => ?_)
      refine lv_aload_n hx hb dX11_feed_39 rfl (lv_at hl 1 rfl) ?_
      refine va_get (D := D) (ci := 11) (v := .ref (xa 0)) (C := RX11) (T := TX11) (N := 8) hx hb hT i_TX11 hown hK hP 0 rfl rfl 0 (by decide) (hT _ t_533) (fun _ h9 => h9) rfl dX11_feed_40 ?_
      refine lv_aload_n hx hb dX11_feed_43 rfl (lv_at hl 1 rfl) ?_
      refine va_get (D := D) (ci := 11) (v := .int 5) (C := RX11) (T := TX11) (N := 8) hx hb hT i_TX11 hown hK hP 0 rfl rfl 1 (by decide) (hT _ t_534) (fun _ h9 => h9) rfl dX11_feed_44 ?_
      refine lv_lload_n hx hb dX11_feed_47 rfl (lv_at hl 2 rfl) ?_
      refine lv_bipush (v := 8) hx hb dX11_feed_48 (by decide) ?_
      refine lv_iload hx hb dX11_feed_50 (lv_at hl 0 rfl) ?_
      refine lv_imul hx hb dX11_feed_52 ?_
      refine lv_topi (fun z245 e246 => ?_)
      obtain rfl : z245 = 0 := e246.trans (by first | decide | rfl)
      refine lv_lushr hx hb dX11_feed_53 rfl ?_
      refine lv_topl (fun z247 e248 => ?_)
      refine lv_l2i hx hb dX11_feed_54 rfl ?_
      refine lv_topi (fun z249 e250 => ?_)
      refine lv_i2b hx hb dX11_feed_55 rfl ?_
      refine lv_topi (fun z251 e252 => ?_)
      refine va_bast hx hb hK hP hD hS 1 0 rfl rfl (vp_in_iff.mpr (by decide)) dX11_feed_56 (fun H locs hP hD hS => ?_)
      have hP : va_P D vwCl [(hx0, .inr (11, [.ref (xa 0), .int 5, .int (-1), .ref (xa 1), .ref (xa 2), .ref (xa 3), .ref (xa 4), .ref (xa 5)])), ((xa 0), .inl (cy 0, 1600, .inl (upd f242 (5 : Int32).toNatClampNeg (vp_nar .byte z251))))] H := hP
      have hD : va_D A [(hx0, .inr (11, [.ref (xa 0), .int 5, .int (-1), .ref (xa 1), .ref (xa 2), .ref (xa 3), .ref (xa 4), .ref (xa 5)])), ((xa 0), .inl (cy 0, 1600, .inl (upd f242 (5 : Int32).toNatClampNeg (vp_nar .byte z251))))] := hD
      generalize hff253 : (upd f242 (5 : Int32).toNatClampNeg (vp_nar .byte z251)) = f253 at hP hD
      refine lv_aload_n hx hb dX11_feed_57 rfl (lv_at hl 1 rfl) ?_
      refine lv_dup hx hb dX11_feed_58 rfl ?_
      refine va_get (D := D) (ci := 11) (v := .int 5) (C := RX11) (T := TX11) (N := 8) hx hb hT i_TX11 hown hK hP 0 rfl rfl 1 (by decide) (hT _ t_534) (fun _ h9 => h9) rfl dX11_feed_59 ?_
      refine lv_iconst (v := 1) hx hb dX11_feed_62 (by decide) ?_
      refine lv_iadd hx hb dX11_feed_63 ?_
      refine lv_topi (fun z254 e255 => ?_)
      obtain rfl : z254 = 6 := e255.trans (by first | decide | rfl)
      refine va_put (D := D) (ci := 11) (v := .int 6) (ty := .int) (C := RX11) (T := TX11) (N := 8) hx hb hT i_TX11 tyX11 tyX11_ok nmX11 hown hK hP hD hS 0 rfl rfl 1 (by decide) (hT _ t_534) (fun _ h9 => h9) rfl (by decide +kernel) rfl rfl (Nat.le_of_ble_eq_true rfl) dX11_feed_64 (fun H locs hP hD hS => ?_)
      have hP : va_P D vwCl [(hx0, .inr (11, [.ref (xa 0), .int 6, .int (-1), .ref (xa 1), .ref (xa 2), .ref (xa 3), .ref (xa 4), .ref (xa 5)])), ((xa 0), .inl (cy 0, 1600, .inl f253))] H := hP
      have hD : va_D A [(hx0, .inr (11, [.ref (xa 0), .int 6, .int (-1), .ref (xa 1), .ref (xa 2), .ref (xa 3), .ref (xa 4), .ref (xa 5)])), ((xa 0), .inl (cy 0, 1600, .inl f253))] := hD
      refine lv_iinc (v := (-1)) (lv' := [(4, .int (-1)), (0, .ref hx0), (1, .long p0), (3, .int (nI 6))]) hx hb dX11_feed_67 hl (k := 0) rfl (by decide) (by decide) rfl (fun ls hl => ?_)
      refine lv_goto (tgt := 34) hx hb dX11_feed_70 (by decide) ?_
      refine lv_iload hx hb dX11_feed_34 (lv_at hl 0 rfl) ?_
      refine lv_if_lt (tgt := 73) hx hb dX11_feed_36 (by decide) (fun _ => ?_) (fun c9 => absurd (by decide) c9)
      refine lv_aload_n hx hb dX11_feed_73 rfl (lv_at hl 1 rfl) ?_
      refine va_get (D := D) (ci := 11) (v := .int 6) (C := RX11) (T := TX11) (N := 8) hx hb hT i_TX11 hown hK hP 0 rfl rfl 1 (by decide) (hT _ t_534) (fun _ h9 => h9) rfl dX11_feed_74 ?_
      have hP9 := hP.sub (ws' := []) [] rfl
      have hD9 := hD.sub (ws' := []) [] (by decide) rfl
      refine W.widen (k := 0) (n := 0) (Nat.le_of_ble_eq_true rfl) (Nat.le_of_ble_eq_true rfl) ?_
      exact W.iret (v := 6) hx hb hr (fun t ht hW => ⟨⟨6, (), rfl, (by decide), by rw [ht]; exact hP9, hD9⟩, hS.F ht⟩) hS.2.2 dX11_feed_77
    · refine lv_iload_n hx hb dX11_feed_0 rfl (lv_at hl 2 rfl) ?_
      refine lv_iconst (v := 1) hx hb dX11_feed_1 (by decide) ?_
      refine lv_icmp_lt (tgt := 11) hx hb dX11_feed_2 (by decide) (fun c9 => absurd c9 (by decide)) (fun _ => ?_)
      refine lv_iload_n hx hb dX11_feed_5 rfl (lv_at hl 2 rfl) ?_
      refine lv_bipush (v := 8) hx hb dX11_feed_6 (by decide) ?_
      refine lv_icmp_le (tgt := 14) hx hb dX11_feed_8 (by decide) (fun _ => ?_) (fun c9 => absurd (by decide) c9)
      refine lv_aload_n hx hb dX11_feed_14 rfl (lv_at hl 0 rfl) ?_
      refine va_get (D := D) (ci := 11) (v := .int 0) (C := RX11) (T := TX11) (N := 8) hx hb hT i_TX11 hown hK hP 0 rfl rfl 1 (by decide) (hT _ t_534) (fun _ h9 => h9) rfl dX11_feed_15 ?_
      refine lv_iload_n hx hb dX11_feed_18 rfl (lv_at hl 2 rfl) ?_
      refine lv_iadd hx hb dX11_feed_19 ?_
      refine lv_topi (fun z256 e257 => ?_)
      obtain rfl : z256 = 7 := e257.trans (by first | decide | rfl)
      refine lv_sipush (v := 1600) hx hb dX11_feed_20 (by decide) ?_
      refine lv_icmp_le (tgt := 29) hx hb dX11_feed_23 (by decide) (fun _ => ?_) (fun c9 => absurd (by decide) c9)
      refine lv_iload_n hx hb dX11_feed_29 rfl (lv_at hl 2 rfl) ?_
      refine lv_iconst (v := 1) hx hb dX11_feed_30 (by decide) ?_
      refine lv_isub hx hb dX11_feed_31 ?_
      refine lv_topi (fun z258 e259 => ?_)
      obtain rfl : z258 = 6 := e259.trans (by first | decide | rfl)
      refine lv_istore (lv' := [(4, .int 6), (0, .ref hx0), (1, .long p0), (3, .int (nI 7))]) hx hb dX11_feed_32 hl (by decide) rfl (fun ls hl => ?_)
      refine lv_iload hx hb dX11_feed_34 (lv_at hl 0 rfl) ?_
      refine lv_if_lt (tgt := 73) hx hb dX11_feed_36 (by decide) (fun c9 => absurd c9 (by decide)) (fun _ => ?_)
      refine lv_aload_n hx hb dX11_feed_39 rfl (lv_at hl 1 rfl) ?_
      refine va_get (D := D) (ci := 11) (v := .ref (xa 0)) (C := RX11) (T := TX11) (N := 8) hx hb hT i_TX11 hown hK hP 0 rfl rfl 0 (by decide) (hT _ t_533) (fun _ h9 => h9) rfl dX11_feed_40 ?_
      refine lv_aload_n hx hb dX11_feed_43 rfl (lv_at hl 1 rfl) ?_
      refine va_get (D := D) (ci := 11) (v := .int 0) (C := RX11) (T := TX11) (N := 8) hx hb hT i_TX11 hown hK hP 0 rfl rfl 1 (by decide) (hT _ t_534) (fun _ h9 => h9) rfl dX11_feed_44 ?_
      refine lv_lload_n hx hb dX11_feed_47 rfl (lv_at hl 2 rfl) ?_
      refine lv_bipush (v := 8) hx hb dX11_feed_48 (by decide) ?_
      refine lv_iload hx hb dX11_feed_50 (lv_at hl 0 rfl) ?_
      refine lv_imul hx hb dX11_feed_52 ?_
      refine lv_topi (fun z260 e261 => ?_)
      obtain rfl : z260 = 48 := e261.trans (by first | decide | rfl)
      refine lv_lushr hx hb dX11_feed_53 rfl ?_
      refine lv_topl (fun z262 e263 => ?_)
      refine lv_l2i hx hb dX11_feed_54 rfl ?_
      refine lv_topi (fun z264 e265 => ?_)
      refine lv_i2b hx hb dX11_feed_55 rfl ?_
      refine lv_topi (fun z266 e267 => ?_)
      refine va_bast hx hb hK hP hD hS 1 0 rfl rfl (vp_in_iff.mpr (by decide)) dX11_feed_56 (fun H locs hP hD hS => ?_)
      have hP : va_P D vwCl [(hx0, .inr (11, [.ref (xa 0), .int 0, .int (-1), .ref (xa 1), .ref (xa 2), .ref (xa 3), .ref (xa 4), .ref (xa 5)])), ((xa 0), .inl (cy 0, 1600, .inl (upd (fun _ => 0) (0 : Int32).toNatClampNeg (vp_nar .byte z266))))] H := hP
      have hD : va_D A [(hx0, .inr (11, [.ref (xa 0), .int 0, .int (-1), .ref (xa 1), .ref (xa 2), .ref (xa 3), .ref (xa 4), .ref (xa 5)])), ((xa 0), .inl (cy 0, 1600, .inl (upd (fun _ => 0) (0 : Int32).toNatClampNeg (vp_nar .byte z266))))] := hD
      generalize hff268 : (upd (fun _ => 0) (0 : Int32).toNatClampNeg (vp_nar .byte z266)) = f268 at hP hD
      refine lv_aload_n hx hb dX11_feed_57 rfl (lv_at hl 1 rfl) ?_
      refine lv_dup hx hb dX11_feed_58 rfl ?_
      refine va_get (D := D) (ci := 11) (v := .int 0) (C := RX11) (T := TX11) (N := 8) hx hb hT i_TX11 hown hK hP 0 rfl rfl 1 (by decide) (hT _ t_534) (fun _ h9 => h9) rfl dX11_feed_59 ?_
      refine lv_iconst (v := 1) hx hb dX11_feed_62 (by decide) ?_
      refine lv_iadd hx hb dX11_feed_63 ?_
      refine lv_topi (fun z269 e270 => ?_)
      obtain rfl : z269 = 1 := e270.trans (by first | decide | rfl)
      refine va_put (D := D) (ci := 11) (v := .int 1) (ty := .int) (C := RX11) (T := TX11) (N := 8) hx hb hT i_TX11 tyX11 tyX11_ok nmX11 hown hK hP hD hS 0 rfl rfl 1 (by decide) (hT _ t_534) (fun _ h9 => h9) rfl (by decide +kernel) rfl rfl (Nat.le_of_ble_eq_true rfl) dX11_feed_64 (fun H locs hP hD hS => ?_)
      have hP : va_P D vwCl [(hx0, .inr (11, [.ref (xa 0), .int 1, .int (-1), .ref (xa 1), .ref (xa 2), .ref (xa 3), .ref (xa 4), .ref (xa 5)])), ((xa 0), .inl (cy 0, 1600, .inl f268))] H := hP
      have hD : va_D A [(hx0, .inr (11, [.ref (xa 0), .int 1, .int (-1), .ref (xa 1), .ref (xa 2), .ref (xa 3), .ref (xa 4), .ref (xa 5)])), ((xa 0), .inl (cy 0, 1600, .inl f268))] := hD
      refine lv_iinc (v := 5) (lv' := [(4, .int 5), (0, .ref hx0), (1, .long p0), (3, .int (nI 7))]) hx hb dX11_feed_67 hl (k := 0) rfl (by decide) (by decide) rfl (fun ls hl => ?_)
      refine lv_goto (tgt := 34) hx hb dX11_feed_70 (by decide) ?_
      refine lv_iload hx hb dX11_feed_34 (lv_at hl 0 rfl) ?_
      refine lv_if_lt (tgt := 73) hx hb dX11_feed_36 (by decide) (fun c9 => absurd c9 (by decide)) (fun _ => ?_)
      refine lv_aload_n hx hb dX11_feed_39 rfl (lv_at hl 1 rfl) ?_
      refine va_get (D := D) (ci := 11) (v := .ref (xa 0)) (C := RX11) (T := TX11) (N := 8) hx hb hT i_TX11 hown hK hP 0 rfl rfl 0 (by decide) (hT _ t_533) (fun _ h9 => h9) rfl dX11_feed_40 ?_
      refine lv_aload_n hx hb dX11_feed_43 rfl (lv_at hl 1 rfl) ?_
      refine va_get (D := D) (ci := 11) (v := .int 1) (C := RX11) (T := TX11) (N := 8) hx hb hT i_TX11 hown hK hP 0 rfl rfl 1 (by decide) (hT _ t_534) (fun _ h9 => h9) rfl dX11_feed_44 ?_
      refine lv_lload_n hx hb dX11_feed_47 rfl (lv_at hl 2 rfl) ?_
      refine lv_bipush (v := 8) hx hb dX11_feed_48 (by decide) ?_
      refine lv_iload hx hb dX11_feed_50 (lv_at hl 0 rfl) ?_
      refine lv_imul hx hb dX11_feed_52 ?_
      refine lv_topi (fun z271 e272 => ?_)
      obtain rfl : z271 = 40 := e272.trans (by first | decide | rfl)
      refine lv_lushr hx hb dX11_feed_53 rfl ?_
      refine lv_topl (fun z273 e274 => ?_)
      refine lv_l2i hx hb dX11_feed_54 rfl ?_
      refine lv_topi (fun z275 e276 => ?_)
      refine lv_i2b hx hb dX11_feed_55 rfl ?_
      refine lv_topi (fun z277 e278 => ?_)
      refine va_bast hx hb hK hP hD hS 1 0 rfl rfl (vp_in_iff.mpr (by decide)) dX11_feed_56 (fun H locs hP hD hS => ?_)
      have hP : va_P D vwCl [(hx0, .inr (11, [.ref (xa 0), .int 1, .int (-1), .ref (xa 1), .ref (xa 2), .ref (xa 3), .ref (xa 4), .ref (xa 5)])), ((xa 0), .inl (cy 0, 1600, .inl (upd f268 (1 : Int32).toNatClampNeg (vp_nar .byte z277))))] H := hP
      have hD : va_D A [(hx0, .inr (11, [.ref (xa 0), .int 1, .int (-1), .ref (xa 1), .ref (xa 2), .ref (xa 3), .ref (xa 4), .ref (xa 5)])), ((xa 0), .inl (cy 0, 1600, .inl (upd f268 (1 : Int32).toNatClampNeg (vp_nar .byte z277))))] := hD
      generalize hff279 : (upd f268 (1 : Int32).toNatClampNeg (vp_nar .byte z277)) = f279 at hP hD
      refine lv_aload_n hx hb dX11_feed_57 rfl (lv_at hl 1 rfl) ?_
      refine lv_dup hx hb dX11_feed_58 rfl ?_
      refine va_get (D := D) (ci := 11) (v := .int 1) (C := RX11) (T := TX11) (N := 8) hx hb hT i_TX11 hown hK hP 0 rfl rfl 1 (by decide) (hT _ t_534) (fun _ h9 => h9) rfl dX11_feed_59 ?_
      refine lv_iconst (v := 1) hx hb dX11_feed_62 (by decide) ?_
      refine lv_iadd hx hb dX11_feed_63 ?_
      refine lv_topi (fun z280 e281 => ?_)
      obtain rfl : z280 = 2 := e281.trans (by first | decide | rfl)
      refine va_put (D := D) (ci := 11) (v := .int 2) (ty := .int) (C := RX11) (T := TX11) (N := 8) hx hb hT i_TX11 tyX11 tyX11_ok nmX11 hown hK hP hD hS 0 rfl rfl 1 (by decide) (hT _ t_534) (fun _ h9 => h9) rfl (by decide +kernel) rfl rfl (Nat.le_of_ble_eq_true rfl) dX11_feed_64 (fun H locs hP hD hS => ?_)
      have hP : va_P D vwCl [(hx0, .inr (11, [.ref (xa 0), .int 2, .int (-1), .ref (xa 1), .ref (xa 2), .ref (xa 3), .ref (xa 4), .ref (xa 5)])), ((xa 0), .inl (cy 0, 1600, .inl f279))] H := hP
      have hD : va_D A [(hx0, .inr (11, [.ref (xa 0), .int 2, .int (-1), .ref (xa 1), .ref (xa 2), .ref (xa 3), .ref (xa 4), .ref (xa 5)])), ((xa 0), .inl (cy 0, 1600, .inl f279))] := hD
      refine lv_iinc (v := 4) (lv' := [(4, .int 4), (0, .ref hx0), (1, .long p0), (3, .int (nI 7))]) hx hb dX11_feed_67 hl (k := 0) rfl (by decide) (by decide) rfl (fun ls hl => ?_)
      refine lv_goto (tgt := 34) hx hb dX11_feed_70 (by decide) ?_
      refine lv_iload hx hb dX11_feed_34 (lv_at hl 0 rfl) ?_
      refine lv_if_lt (tgt := 73) hx hb dX11_feed_36 (by decide) (fun c9 => absurd c9 (by decide)) (fun _ => ?_)
      refine lv_aload_n hx hb dX11_feed_39 rfl (lv_at hl 1 rfl) ?_
      refine va_get (D := D) (ci := 11) (v := .ref (xa 0)) (C := RX11) (T := TX11) (N := 8) hx hb hT i_TX11 hown hK hP 0 rfl rfl 0 (by decide) (hT _ t_533) (fun _ h9 => h9) rfl dX11_feed_40 ?_
      refine lv_aload_n hx hb dX11_feed_43 rfl (lv_at hl 1 rfl) ?_
      refine va_get (D := D) (ci := 11) (v := .int 2) (C := RX11) (T := TX11) (N := 8) hx hb hT i_TX11 hown hK hP 0 rfl rfl 1 (by decide) (hT _ t_534) (fun _ h9 => h9) rfl dX11_feed_44 ?_
      refine lv_lload_n hx hb dX11_feed_47 rfl (lv_at hl 2 rfl) ?_
      refine lv_bipush (v := 8) hx hb dX11_feed_48 (by decide) ?_
      refine lv_iload hx hb dX11_feed_50 (lv_at hl 0 rfl) ?_
      refine lv_imul hx hb dX11_feed_52 ?_
      refine lv_topi (fun z282 e283 => ?_)
      obtain rfl : z282 = 32 := e283.trans (by first | decide | rfl)
      refine lv_lushr hx hb dX11_feed_53 rfl ?_
      refine lv_topl (fun z284 e285 => ?_)
      refine lv_l2i hx hb dX11_feed_54 rfl ?_
      refine lv_topi (fun z286 e287 => ?_)
      refine lv_i2b hx hb dX11_feed_55 rfl ?_
      refine lv_topi (fun z288 e289 => ?_)
      refine va_bast hx hb hK hP hD hS 1 0 rfl rfl (vp_in_iff.mpr (by decide)) dX11_feed_56 (fun H locs hP hD hS => ?_)
      have hP : va_P D vwCl [(hx0, .inr (11, [.ref (xa 0), .int 2, .int (-1), .ref (xa 1), .ref (xa 2), .ref (xa 3), .ref (xa 4), .ref (xa 5)])), ((xa 0), .inl (cy 0, 1600, .inl (upd f279 (2 : Int32).toNatClampNeg (vp_nar .byte z288))))] H := hP
      have hD : va_D A [(hx0, .inr (11, [.ref (xa 0), .int 2, .int (-1), .ref (xa 1), .ref (xa 2), .ref (xa 3), .ref (xa 4), .ref (xa 5)])), ((xa 0), .inl (cy 0, 1600, .inl (upd f279 (2 : Int32).toNatClampNeg (vp_nar .byte z288))))] := hD
      generalize hff290 : (upd f279 (2 : Int32).toNatClampNeg (vp_nar .byte z288)) = f290 at hP hD
      refine lv_aload_n hx hb dX11_feed_57 rfl (lv_at hl 1 rfl) ?_
      refine lv_dup hx hb dX11_feed_58 rfl ?_
      refine va_get (D := D) (ci := 11) (v := .int 2) (C := RX11) (T := TX11) (N := 8) hx hb hT i_TX11 hown hK hP 0 rfl rfl 1 (by decide) (hT _ t_534) (fun _ h9 => h9) rfl dX11_feed_59 ?_
      refine lv_iconst (v := 1) hx hb dX11_feed_62 (by decide) ?_
      refine lv_iadd hx hb dX11_feed_63 ?_
      refine lv_topi (fun z291 e292 => ?_)
      obtain rfl : z291 = 3 := e292.trans (by first | decide | rfl)
      refine va_put (D := D) (ci := 11) (v := .int 3) (ty := .int) (C := RX11) (T := TX11) (N := 8) hx hb hT i_TX11 tyX11 tyX11_ok nmX11 hown hK hP hD hS 0 rfl rfl 1 (by decide) (hT _ t_534) (fun _ h9 => h9) rfl (by decide +kernel) rfl rfl (Nat.le_of_ble_eq_true rfl) dX11_feed_64 (fun H locs hP hD hS => ?_)
      have hP : va_P D vwCl [(hx0, .inr (11, [.ref (xa 0), .int 3, .int (-1), .ref (xa 1), .ref (xa 2), .ref (xa 3), .ref (xa 4), .ref (xa 5)])), ((xa 0), .inl (cy 0, 1600, .inl f290))] H := hP
      have hD : va_D A [(hx0, .inr (11, [.ref (xa 0), .int 3, .int (-1), .ref (xa 1), .ref (xa 2), .ref (xa 3), .ref (xa 4), .ref (xa 5)])), ((xa 0), .inl (cy 0, 1600, .inl f290))] := hD
      refine lv_iinc (v := 3) (lv' := [(4, .int 3), (0, .ref hx0), (1, .long p0), (3, .int (nI 7))]) hx hb dX11_feed_67 hl (k := 0) rfl (by decide) (by decide) rfl (fun ls hl => ?_)
      refine lv_goto (tgt := 34) hx hb dX11_feed_70 (by decide) ?_
      refine lv_iload hx hb dX11_feed_34 (lv_at hl 0 rfl) ?_
      refine lv_if_lt (tgt := 73) hx hb dX11_feed_36 (by decide) (fun c9 => absurd c9 (by decide)) (fun _ => ?_)
      refine lv_aload_n hx hb dX11_feed_39 rfl (lv_at hl 1 rfl) ?_
      refine va_get (D := D) (ci := 11) (v := .ref (xa 0)) (C := RX11) (T := TX11) (N := 8) hx hb hT i_TX11 hown hK hP 0 rfl rfl 0 (by decide) (hT _ t_533) (fun _ h9 => h9) rfl dX11_feed_40 ?_
      refine lv_aload_n hx hb dX11_feed_43 rfl (lv_at hl 1 rfl) ?_
      refine va_get (D := D) (ci := 11) (v := .int 3) (C := RX11) (T := TX11) (N := 8) hx hb hT i_TX11 hown hK hP 0 rfl rfl 1 (by decide) (hT _ t_534) (fun _ h9 => h9) rfl dX11_feed_44 ?_
      refine lv_lload_n hx hb dX11_feed_47 rfl (lv_at hl 2 rfl) ?_
      refine lv_bipush (v := 8) hx hb dX11_feed_48 (by decide) ?_
      refine lv_iload hx hb dX11_feed_50 (lv_at hl 0 rfl) ?_
      refine lv_imul hx hb dX11_feed_52 ?_
      refine lv_topi (fun z293 e294 => ?_)
      obtain rfl : z293 = 24 := e294.trans (by first | decide | rfl)
      refine lv_lushr hx hb dX11_feed_53 rfl ?_
      refine lv_topl (fun z295 e296 => ?_)
      refine lv_l2i hx hb dX11_feed_54 rfl ?_
      refine lv_topi (fun z297 e298 => ?_)
      refine lv_i2b hx hb dX11_feed_55 rfl ?_
      refine lv_topi (fun z299 e300 => ?_)
      refine va_bast hx hb hK hP hD hS 1 0 rfl rfl (vp_in_iff.mpr (by decide)) dX11_feed_56 (fun H locs hP hD hS => ?_)
      have hP : va_P D vwCl [(hx0, .inr (11, [.ref (xa 0), .int 3, .int (-1), .ref (xa 1), .ref (xa 2), .ref (xa 3), .ref (xa 4), .ref (xa 5)])), ((xa 0), .inl (cy 0, 1600, .inl (upd f290 (3 : Int32).toNatClampNeg (vp_nar .byte z299))))] H := hP
      have hD : va_D A [(hx0, .inr (11, [.ref (xa 0), .int 3, .int (-1), .ref (xa 1), .ref (xa 2), .ref (xa 3), .ref (xa 4), .ref (xa 5)])), ((xa 0), .inl (cy 0, 1600, .inl (upd f290 (3 : Int32).toNatClampNeg (vp_nar .byte z299))))] := hD
      generalize hff301 : (upd f290 (3 : Int32).toNatClampNeg (vp_nar .byte z299)) = f301 at hP hD
      refine lv_aload_n hx hb dX11_feed_57 rfl (lv_at hl 1 rfl) ?_
      refine lv_dup hx hb dX11_feed_58 rfl ?_
      refine va_get (D := D) (ci := 11) (v := .int 3) (C := RX11) (T := TX11) (N := 8) hx hb hT i_TX11 hown hK hP 0 rfl rfl 1 (by decide) (hT _ t_534) (fun _ h9 => h9) rfl dX11_feed_59 ?_
      refine lv_iconst (v := 1) hx hb dX11_feed_62 (by decide) ?_
      refine lv_iadd hx hb dX11_feed_63 ?_
      refine lv_topi (fun z302 e303 => ?_)
      obtain rfl : z302 = 4 := e303.trans (by first | decide | rfl)
      refine va_put (D := D) (ci := 11) (v := .int 4) (ty := .int) (C := RX11) (T := TX11) (N := 8) hx hb hT i_TX11 tyX11 tyX11_ok nmX11 hown hK hP hD hS 0 rfl rfl 1 (by decide) (hT _ t_534) (fun _ h9 => h9) rfl (by decide +kernel) rfl rfl (Nat.le_of_ble_eq_true rfl) dX11_feed_64 (fun H locs hP hD hS => ?_)
      have hP : va_P D vwCl [(hx0, .inr (11, [.ref (xa 0), .int 4, .int (-1), .ref (xa 1), .ref (xa 2), .ref (xa 3), .ref (xa 4), .ref (xa 5)])), ((xa 0), .inl (cy 0, 1600, .inl f301))] H := hP
      have hD : va_D A [(hx0, .inr (11, [.ref (xa 0), .int 4, .int (-1), .ref (xa 1), .ref (xa 2), .ref (xa 3), .ref (xa 4), .ref (xa 5)])), ((xa 0), .inl (cy 0, 1600, .inl f301))] := hD
      refine lv_iinc (v := 2) (lv' := [(4, .int 2), (0, .ref hx0), (1, .long p0), (3, .int (nI 7))]) hx hb dX11_feed_67 hl (k := 0) rfl (by decide) (by decide) rfl (fun ls hl => ?_)
      refine lv_goto (tgt := 34) hx hb dX11_feed_70 (by decide) ?_
      refine lv_iload hx hb dX11_feed_34 (lv_at hl 0 rfl) ?_
      refine lv_if_lt (tgt := 73) hx hb dX11_feed_36 (by decide) (fun c9 => absurd c9 (by decide)) (fun _ => ?_)
      refine lv_aload_n hx hb dX11_feed_39 rfl (lv_at hl 1 rfl) ?_
      refine va_get (D := D) (ci := 11) (v := .ref (xa 0)) (C := RX11) (T := TX11) (N := 8) hx hb hT i_TX11 hown hK hP 0 rfl rfl 0 (by decide) (hT _ t_533) (fun _ h9 => h9) rfl dX11_feed_40 ?_
      refine lv_aload_n hx hb dX11_feed_43 rfl (lv_at hl 1 rfl) ?_
      refine va_get (D := D) (ci := 11) (v := .int 4) (C := RX11) (T := TX11) (N := 8) hx hb hT i_TX11 hown hK hP 0 rfl rfl 1 (by decide) (hT _ t_534) (fun _ h9 => h9) rfl dX11_feed_44 ?_
      refine lv_lload_n hx hb dX11_feed_47 rfl (lv_at hl 2 rfl) ?_
      refine lv_bipush (v := 8) hx hb dX11_feed_48 (by decide) ?_
      refine lv_iload hx hb dX11_feed_50 (lv_at hl 0 rfl) ?_
      refine lv_imul hx hb dX11_feed_52 ?_
      refine lv_topi (fun z304 e305 => ?_)
      obtain rfl : z304 = 16 := e305.trans (by first | decide | rfl)
      refine lv_lushr hx hb dX11_feed_53 rfl ?_
      refine lv_topl (fun z306 e307 => ?_)
      refine lv_l2i hx hb dX11_feed_54 rfl ?_
      refine lv_topi (fun z308 e309 => ?_)
      refine lv_i2b hx hb dX11_feed_55 rfl ?_
      refine lv_topi (fun z310 e311 => ?_)
      refine va_bast hx hb hK hP hD hS 1 0 rfl rfl (vp_in_iff.mpr (by decide)) dX11_feed_56 (fun H locs hP hD hS => ?_)
      have hP : va_P D vwCl [(hx0, .inr (11, [.ref (xa 0), .int 4, .int (-1), .ref (xa 1), .ref (xa 2), .ref (xa 3), .ref (xa 4), .ref (xa 5)])), ((xa 0), .inl (cy 0, 1600, .inl (upd f301 (4 : Int32).toNatClampNeg (vp_nar .byte z310))))] H := hP
      have hD : va_D A [(hx0, .inr (11, [.ref (xa 0), .int 4, .int (-1), .ref (xa 1), .ref (xa 2), .ref (xa 3), .ref (xa 4), .ref (xa 5)])), ((xa 0), .inl (cy 0, 1600, .inl (upd f301 (4 : Int32).toNatClampNeg (vp_nar .byte z310))))] := hD
      generalize hff312 : (upd f301 (4 : Int32).toNatClampNeg (vp_nar .byte z310)) = f312 at hP hD
      refine lv_aload_n hx hb dX11_feed_57 rfl (lv_at hl 1 rfl) ?_
      refine lv_dup hx hb dX11_feed_58 rfl ?_
      refine va_get (D := D) (ci := 11) (v := .int 4) (C := RX11) (T := TX11) (N := 8) hx hb hT i_TX11 hown hK hP 0 rfl rfl 1 (by decide) (hT _ t_534) (fun _ h9 => h9) rfl dX11_feed_59 ?_
      refine lv_iconst (v := 1) hx hb dX11_feed_62 (by decide) ?_
      refine lv_iadd hx hb dX11_feed_63 ?_
      refine lv_topi (fun z313 e314 => ?_)
      obtain rfl : z313 = 5 := e314.trans (by first | decide | rfl)
      refine va_put (D := D) (ci := 11) (v := .int 5) (ty := .int) (C := RX11) (T := TX11) (N := 8) hx hb hT i_TX11 tyX11 tyX11_ok nmX11 hown hK hP hD hS 0 rfl rfl 1 (by decide) (hT _ t_534) (fun _ h9 => h9) rfl (by decide +kernel) rfl rfl (Nat.le_of_ble_eq_true rfl) dX11_feed_64 (fun H locs hP hD hS => ?_)
      have hP : va_P D vwCl [(hx0, .inr (11, [.ref (xa 0), .int 5, .int (-1), .ref (xa 1), .ref (xa 2), .ref (xa 3), .ref (xa 4), .ref (xa 5)])), ((xa 0), .inl (cy 0, 1600, .inl f312))] H := hP
      have hD : va_D A [(hx0, .inr (11, [.ref (xa 0), .int 5, .int (-1), .ref (xa 1), .ref (xa 2), .ref (xa 3), .ref (xa 4), .ref (xa 5)])), ((xa 0), .inl (cy 0, 1600, .inl f312))] := hD
      refine lv_iinc (v := 1) (lv' := [(4, .int 1), (0, .ref hx0), (1, .long p0), (3, .int (nI 7))]) hx hb dX11_feed_67 hl (k := 0) rfl (by decide) (by decide) rfl (fun ls hl => ?_)
      refine lv_goto (tgt := 34) hx hb dX11_feed_70 (by decide) ?_
      refine lv_iload hx hb dX11_feed_34 (lv_at hl 0 rfl) ?_
      refine lv_if_lt (tgt := 73) hx hb dX11_feed_36 (by decide) (fun c9 => absurd c9 (by decide)) (fun _ => ?_)
      refine lv_aload_n hx hb dX11_feed_39 rfl (lv_at hl 1 rfl) ?_
      refine va_get (D := D) (ci := 11) (v := .ref (xa 0)) (C := RX11) (T := TX11) (N := 8) hx hb hT i_TX11 hown hK hP 0 rfl rfl 0 (by decide) (hT _ t_533) (fun _ h9 => h9) rfl dX11_feed_40 ?_
      refine lv_aload_n hx hb dX11_feed_43 rfl (lv_at hl 1 rfl) ?_
      refine va_get (D := D) (ci := 11) (v := .int 5) (C := RX11) (T := TX11) (N := 8) hx hb hT i_TX11 hown hK hP 0 rfl rfl 1 (by decide) (hT _ t_534) (fun _ h9 => h9) rfl dX11_feed_44 ?_
      refine lv_lload_n hx hb dX11_feed_47 rfl (lv_at hl 2 rfl) ?_
      refine lv_bipush (v := 8) hx hb dX11_feed_48 (by decide) ?_
      refine lv_iload hx hb dX11_feed_50 (lv_at hl 0 rfl) ?_
      refine lv_imul hx hb dX11_feed_52 ?_
      refine lv_topi (fun z315 e316 => ?_)
      obtain rfl : z315 = 8 := e316.trans (by first | decide | rfl)
      refine lv_lushr hx hb dX11_feed_53 rfl ?_
      refine lv_topl (fun z317 e318 => ?_)
      refine lv_l2i hx hb dX11_feed_54 rfl ?_
      refine lv_topi (fun z319 e320 => ?_)
      refine lv_i2b hx hb dX11_feed_55 rfl ?_
      refine lv_topi (fun z321 e322 => ?_)
      refine va_bast hx hb hK hP hD hS 1 0 rfl rfl (vp_in_iff.mpr (by decide)) dX11_feed_56 (fun H locs hP hD hS => ?_)
      have hP : va_P D vwCl [(hx0, .inr (11, [.ref (xa 0), .int 5, .int (-1), .ref (xa 1), .ref (xa 2), .ref (xa 3), .ref (xa 4), .ref (xa 5)])), ((xa 0), .inl (cy 0, 1600, .inl (upd f312 (5 : Int32).toNatClampNeg (vp_nar .byte z321))))] H := hP
      have hD : va_D A [(hx0, .inr (11, [.ref (xa 0), .int 5, .int (-1), .ref (xa 1), .ref (xa 2), .ref (xa 3), .ref (xa 4), .ref (xa 5)])), ((xa 0), .inl (cy 0, 1600, .inl (upd f312 (5 : Int32).toNatClampNeg (vp_nar .byte z321))))] := hD
      generalize hff323 : (upd f312 (5 : Int32).toNatClampNeg (vp_nar .byte z321)) = f323 at hP hD
      refine lv_aload_n hx hb dX11_feed_57 rfl (lv_at hl 1 rfl) ?_
      refine lv_dup hx hb dX11_feed_58 rfl ?_
      refine va_get (D := D) (ci := 11) (v := .int 5) (C := RX11) (T := TX11) (N := 8) hx hb hT i_TX11 hown hK hP 0 rfl rfl 1 (by decide) (hT _ t_534) (fun _ h9 => h9) rfl dX11_feed_59 ?_
      refine lv_iconst (v := 1) hx hb dX11_feed_62 (by decide) ?_
      refine lv_iadd hx hb dX11_feed_63 ?_
      refine lv_topi (fun z324 e325 => ?_)
      obtain rfl : z324 = 6 := e325.trans (by first | decide | rfl)
      refine va_put (D := D) (ci := 11) (v := .int 6) (ty := .int) (C := RX11) (T := TX11) (N := 8) hx hb hT i_TX11 tyX11 tyX11_ok nmX11 hown hK hP hD hS 0 rfl rfl 1 (by decide) (hT _ t_534) (fun _ h9 => h9) rfl (by decide +kernel) rfl rfl (Nat.le_of_ble_eq_true rfl) dX11_feed_64 (fun H locs hP hD hS => ?_)
      have hP : va_P D vwCl [(hx0, .inr (11, [.ref (xa 0), .int 6, .int (-1), .ref (xa 1), .ref (xa 2), .ref (xa 3), .ref (xa 4), .ref (xa 5)])), ((xa 0), .inl (cy 0, 1600, .inl f323))] H := hP
      have hD : va_D A [(hx0, .inr (11, [.ref (xa 0), .int 6, .int (-1), .ref (xa 1), .ref (xa 2), .ref (xa 3), .ref (xa 4), .ref (xa 5)])), ((xa 0), .inl (cy 0, 1600, .inl f323))] := hD
      refine lv_iinc (v := 0) (lv' := [(4, .int 0), (0, .ref hx0), (1, .long p0), (3, .int (nI 7))]) hx hb dX11_feed_67 hl (k := 0) rfl (by decide) (by decide) rfl (fun ls hl => ?_)
      refine lv_goto (tgt := 34) hx hb dX11_feed_70 (by decide) ?_
      refine lv_iload hx hb dX11_feed_34 (lv_at hl 0 rfl) ?_
      refine lv_if_lt (tgt := 73) hx hb dX11_feed_36 (by decide) (fun c9 => absurd c9 (by decide)) (fun _ => ?_)
      refine lv_aload_n hx hb dX11_feed_39 rfl (lv_at hl 1 rfl) ?_
      refine va_get (D := D) (ci := 11) (v := .ref (xa 0)) (C := RX11) (T := TX11) (N := 8) hx hb hT i_TX11 hown hK hP 0 rfl rfl 0 (by decide) (hT _ t_533) (fun _ h9 => h9) rfl dX11_feed_40 ?_
      refine lv_aload_n hx hb dX11_feed_43 rfl (lv_at hl 1 rfl) ?_
      refine va_get (D := D) (ci := 11) (v := .int 6) (C := RX11) (T := TX11) (N := 8) hx hb hT i_TX11 hown hK hP 0 rfl rfl 1 (by decide) (hT _ t_534) (fun _ h9 => h9) rfl dX11_feed_44 ?_
      refine lv_lload_n hx hb dX11_feed_47 rfl (lv_at hl 2 rfl) ?_
      refine lv_bipush (v := 8) hx hb dX11_feed_48 (by decide) ?_
      refine lv_iload hx hb dX11_feed_50 (lv_at hl 0 rfl) ?_
      refine lv_imul hx hb dX11_feed_52 ?_
      refine lv_topi (fun z326 e327 => ?_)
      obtain rfl : z326 = 0 := e327.trans (by first | decide | rfl)
      refine lv_lushr hx hb dX11_feed_53 rfl ?_
      refine lv_topl (fun z328 e329 => ?_)
      refine lv_l2i hx hb dX11_feed_54 rfl ?_
      refine lv_topi (fun z330 e331 => ?_)
      refine lv_i2b hx hb dX11_feed_55 rfl ?_
      refine lv_topi (fun z332 e333 => ?_)
      refine va_bast hx hb hK hP hD hS 1 0 rfl rfl (vp_in_iff.mpr (by decide)) dX11_feed_56 (fun H locs hP hD hS => ?_)
      have hP : va_P D vwCl [(hx0, .inr (11, [.ref (xa 0), .int 6, .int (-1), .ref (xa 1), .ref (xa 2), .ref (xa 3), .ref (xa 4), .ref (xa 5)])), ((xa 0), .inl (cy 0, 1600, .inl (upd f323 (6 : Int32).toNatClampNeg (vp_nar .byte z332))))] H := hP
      have hD : va_D A [(hx0, .inr (11, [.ref (xa 0), .int 6, .int (-1), .ref (xa 1), .ref (xa 2), .ref (xa 3), .ref (xa 4), .ref (xa 5)])), ((xa 0), .inl (cy 0, 1600, .inl (upd f323 (6 : Int32).toNatClampNeg (vp_nar .byte z332))))] := hD
      generalize hff334 : (upd f323 (6 : Int32).toNatClampNeg (vp_nar .byte z332)) = f334 at hP hD
      refine lv_aload_n hx hb dX11_feed_57 rfl (lv_at hl 1 rfl) ?_
      refine lv_dup hx hb dX11_feed_58 rfl ?_
      refine va_get (D := D) (ci := 11) (v := .int 6) (C := RX11) (T := TX11) (N := 8) hx hb hT i_TX11 hown hK hP 0 rfl rfl 1 (by decide) (hT _ t_534) (fun _ h9 => h9) rfl dX11_feed_59 ?_
      refine lv_iconst (v := 1) hx hb dX11_feed_62 (by decide) ?_
      refine lv_iadd hx hb dX11_feed_63 ?_
      refine lv_topi (fun z335 e336 => ?_)
      obtain rfl : z335 = 7 := e336.trans (by first | decide | rfl)
      refine va_put (D := D) (ci := 11) (v := .int 7) (ty := .int) (C := RX11) (T := TX11) (N := 8) hx hb hT i_TX11 tyX11 tyX11_ok nmX11 hown hK hP hD hS 0 rfl rfl 1 (by decide) (hT _ t_534) (fun _ h9 => h9) rfl (by decide +kernel) rfl rfl (Nat.le_of_ble_eq_true rfl) dX11_feed_64 (fun H locs hP hD hS => ?_)
      have hP : va_P D vwCl [(hx0, .inr (11, [.ref (xa 0), .int 7, .int (-1), .ref (xa 1), .ref (xa 2), .ref (xa 3), .ref (xa 4), .ref (xa 5)])), ((xa 0), .inl (cy 0, 1600, .inl f334))] H := hP
      have hD : va_D A [(hx0, .inr (11, [.ref (xa 0), .int 7, .int (-1), .ref (xa 1), .ref (xa 2), .ref (xa 3), .ref (xa 4), .ref (xa 5)])), ((xa 0), .inl (cy 0, 1600, .inl f334))] := hD
      refine lv_iinc (v := (-1)) (lv' := [(4, .int (-1)), (0, .ref hx0), (1, .long p0), (3, .int (nI 7))]) hx hb dX11_feed_67 hl (k := 0) rfl (by decide) (by decide) rfl (fun ls hl => ?_)
      refine lv_goto (tgt := 34) hx hb dX11_feed_70 (by decide) ?_
      refine lv_iload hx hb dX11_feed_34 (lv_at hl 0 rfl) ?_
      refine lv_if_lt (tgt := 73) hx hb dX11_feed_36 (by decide) (fun _ => ?_) (fun c9 => absurd (by decide) c9)
      refine lv_aload_n hx hb dX11_feed_73 rfl (lv_at hl 1 rfl) ?_
      refine va_get (D := D) (ci := 11) (v := .int 7) (C := RX11) (T := TX11) (N := 8) hx hb hT i_TX11 hown hK hP 0 rfl rfl 1 (by decide) (hT _ t_534) (fun _ h9 => h9) rfl dX11_feed_74 ?_
      have hP9 := hP.sub (ws' := []) [] rfl
      have hD9 := hD.sub (ws' := []) [] (by decide) rfl
      refine W.widen (k := 0) (n := 0) (Nat.le_of_ble_eq_true rfl) (Nat.le_of_ble_eq_true rfl) ?_
      exact W.iret (v := 7) hx hb hr (fun t ht hW => ⟨⟨7, (), rfl, (by decide), by rw [ht]; exact hP9, hD9⟩, hS.F ht⟩) hS.2.2 dX11_feed_77
    · refine lv_iload_n hx hb dX11_feed_0 rfl (lv_at hl 2 rfl) ?_
      refine lv_iconst (v := 1) hx hb dX11_feed_1 (by decide) ?_
      refine lv_icmp_lt (tgt := 11) hx hb dX11_feed_2 (by decide) (fun c9 => absurd c9 (by decide)) (fun _ => ?_)
      refine lv_iload_n hx hb dX11_feed_5 rfl (lv_at hl 2 rfl) ?_
      refine lv_bipush (v := 8) hx hb dX11_feed_6 (by decide) ?_
      refine lv_icmp_le (tgt := 14) hx hb dX11_feed_8 (by decide) (fun _ => ?_) (fun c9 => absurd (by decide) c9)
      refine lv_aload_n hx hb dX11_feed_14 rfl (lv_at hl 0 rfl) ?_
      refine va_get (D := D) (ci := 11) (v := .int 0) (C := RX11) (T := TX11) (N := 8) hx hb hT i_TX11 hown hK hP 0 rfl rfl 1 (by decide) (hT _ t_534) (fun _ h9 => h9) rfl dX11_feed_15 ?_
      refine lv_iload_n hx hb dX11_feed_18 rfl (lv_at hl 2 rfl) ?_
      refine lv_iadd hx hb dX11_feed_19 ?_
      refine lv_topi (fun z337 e338 => ?_)
      obtain rfl : z337 = 8 := e338.trans (by first | decide | rfl)
      refine lv_sipush (v := 1600) hx hb dX11_feed_20 (by decide) ?_
      refine lv_icmp_le (tgt := 29) hx hb dX11_feed_23 (by decide) (fun _ => ?_) (fun c9 => absurd (by decide) c9)
      refine lv_iload_n hx hb dX11_feed_29 rfl (lv_at hl 2 rfl) ?_
      refine lv_iconst (v := 1) hx hb dX11_feed_30 (by decide) ?_
      refine lv_isub hx hb dX11_feed_31 ?_
      refine lv_topi (fun z339 e340 => ?_)
      obtain rfl : z339 = 7 := e340.trans (by first | decide | rfl)
      refine lv_istore (lv' := [(4, .int 7), (0, .ref hx0), (1, .long p0), (3, .int (nI 8))]) hx hb dX11_feed_32 hl (by decide) rfl (fun ls hl => ?_)
      refine lv_iload hx hb dX11_feed_34 (lv_at hl 0 rfl) ?_
      refine lv_if_lt (tgt := 73) hx hb dX11_feed_36 (by decide) (fun c9 => absurd c9 (by decide)) (fun _ => ?_)
      refine lv_aload_n hx hb dX11_feed_39 rfl (lv_at hl 1 rfl) ?_
      refine va_get (D := D) (ci := 11) (v := .ref (xa 0)) (C := RX11) (T := TX11) (N := 8) hx hb hT i_TX11 hown hK hP 0 rfl rfl 0 (by decide) (hT _ t_533) (fun _ h9 => h9) rfl dX11_feed_40 ?_
      refine lv_aload_n hx hb dX11_feed_43 rfl (lv_at hl 1 rfl) ?_
      refine va_get (D := D) (ci := 11) (v := .int 0) (C := RX11) (T := TX11) (N := 8) hx hb hT i_TX11 hown hK hP 0 rfl rfl 1 (by decide) (hT _ t_534) (fun _ h9 => h9) rfl dX11_feed_44 ?_
      refine lv_lload_n hx hb dX11_feed_47 rfl (lv_at hl 2 rfl) ?_
      refine lv_bipush (v := 8) hx hb dX11_feed_48 (by decide) ?_
      refine lv_iload hx hb dX11_feed_50 (lv_at hl 0 rfl) ?_
      refine lv_imul hx hb dX11_feed_52 ?_
      refine lv_topi (fun z341 e342 => ?_)
      obtain rfl : z341 = 56 := e342.trans (by first | decide | rfl)
      refine lv_lushr hx hb dX11_feed_53 rfl ?_
      refine lv_topl (fun z343 e344 => ?_)
      refine lv_l2i hx hb dX11_feed_54 rfl ?_
      refine lv_topi (fun z345 e346 => ?_)
      refine lv_i2b hx hb dX11_feed_55 rfl ?_
      refine lv_topi (fun z347 e348 => ?_)
      refine va_bast hx hb hK hP hD hS 1 0 rfl rfl (vp_in_iff.mpr (by decide)) dX11_feed_56 (fun H locs hP hD hS => ?_)
      have hP : va_P D vwCl [(hx0, .inr (11, [.ref (xa 0), .int 0, .int (-1), .ref (xa 1), .ref (xa 2), .ref (xa 3), .ref (xa 4), .ref (xa 5)])), ((xa 0), .inl (cy 0, 1600, .inl (upd (fun _ => 0) (0 : Int32).toNatClampNeg (vp_nar .byte z347))))] H := hP
      have hD : va_D A [(hx0, .inr (11, [.ref (xa 0), .int 0, .int (-1), .ref (xa 1), .ref (xa 2), .ref (xa 3), .ref (xa 4), .ref (xa 5)])), ((xa 0), .inl (cy 0, 1600, .inl (upd (fun _ => 0) (0 : Int32).toNatClampNeg (vp_nar .byte z347))))] := hD
      generalize hff349 : (upd (fun _ => 0) (0 : Int32).toNatClampNeg (vp_nar .byte z347)) = f349 at hP hD
      refine lv_aload_n hx hb dX11_feed_57 rfl (lv_at hl 1 rfl) ?_
      refine lv_dup hx hb dX11_feed_58 rfl ?_
      refine va_get (D := D) (ci := 11) (v := .int 0) (C := RX11) (T := TX11) (N := 8) hx hb hT i_TX11 hown hK hP 0 rfl rfl 1 (by decide) (hT _ t_534) (fun _ h9 => h9) rfl dX11_feed_59 ?_
      refine lv_iconst (v := 1) hx hb dX11_feed_62 (by decide) ?_
      refine lv_iadd hx hb dX11_feed_63 ?_
      refine lv_topi (fun z350 e351 => ?_)
      obtain rfl : z350 = 1 := e351.trans (by first | decide | rfl)
      refine va_put (D := D) (ci := 11) (v := .int 1) (ty := .int) (C := RX11) (T := TX11) (N := 8) hx hb hT i_TX11 tyX11 tyX11_ok nmX11 hown hK hP hD hS 0 rfl rfl 1 (by decide) (hT _ t_534) (fun _ h9 => h9) rfl (by decide +kernel) rfl rfl (Nat.le_of_ble_eq_true rfl) dX11_feed_64 (fun H locs hP hD hS => ?_)
      have hP : va_P D vwCl [(hx0, .inr (11, [.ref (xa 0), .int 1, .int (-1), .ref (xa 1), .ref (xa 2), .ref (xa 3), .ref (xa 4), .ref (xa 5)])), ((xa 0), .inl (cy 0, 1600, .inl f349))] H := hP
      have hD : va_D A [(hx0, .inr (11, [.ref (xa 0), .int 1, .int (-1), .ref (xa 1), .ref (xa 2), .ref (xa 3), .ref (xa 4), .ref (xa 5)])), ((xa 0), .inl (cy 0, 1600, .inl f349))] := hD
      refine lv_iinc (v := 6) (lv' := [(4, .int 6), (0, .ref hx0), (1, .long p0), (3, .int (nI 8))]) hx hb dX11_feed_67 hl (k := 0) rfl (by decide) (by decide) rfl (fun ls hl => ?_)
      refine lv_goto (tgt := 34) hx hb dX11_feed_70 (by decide) ?_
      refine lv_iload hx hb dX11_feed_34 (lv_at hl 0 rfl) ?_
      refine lv_if_lt (tgt := 73) hx hb dX11_feed_36 (by decide) (fun c9 => absurd c9 (by decide)) (fun _ => ?_)
      refine lv_aload_n hx hb dX11_feed_39 rfl (lv_at hl 1 rfl) ?_
      refine va_get (D := D) (ci := 11) (v := .ref (xa 0)) (C := RX11) (T := TX11) (N := 8) hx hb hT i_TX11 hown hK hP 0 rfl rfl 0 (by decide) (hT _ t_533) (fun _ h9 => h9) rfl dX11_feed_40 ?_
      refine lv_aload_n hx hb dX11_feed_43 rfl (lv_at hl 1 rfl) ?_
      refine va_get (D := D) (ci := 11) (v := .int 1) (C := RX11) (T := TX11) (N := 8) hx hb hT i_TX11 hown hK hP 0 rfl rfl 1 (by decide) (hT _ t_534) (fun _ h9 => h9) rfl dX11_feed_44 ?_
      refine lv_lload_n hx hb dX11_feed_47 rfl (lv_at hl 2 rfl) ?_
      refine lv_bipush (v := 8) hx hb dX11_feed_48 (by decide) ?_
      refine lv_iload hx hb dX11_feed_50 (lv_at hl 0 rfl) ?_
      refine lv_imul hx hb dX11_feed_52 ?_
      refine lv_topi (fun z352 e353 => ?_)
      obtain rfl : z352 = 48 := e353.trans (by first | decide | rfl)
      refine lv_lushr hx hb dX11_feed_53 rfl ?_
      refine lv_topl (fun z354 e355 => ?_)
      refine lv_l2i hx hb dX11_feed_54 rfl ?_
      refine lv_topi (fun z356 e357 => ?_)
      refine lv_i2b hx hb dX11_feed_55 rfl ?_
      refine lv_topi (fun z358 e359 => ?_)
      refine va_bast hx hb hK hP hD hS 1 0 rfl rfl (vp_in_iff.mpr (by decide)) dX11_feed_56 (fun H locs hP hD hS => ?_)
      have hP : va_P D vwCl [(hx0, .inr (11, [.ref (xa 0), .int 1, .int (-1), .ref (xa 1), .ref (xa 2), .ref (xa 3), .ref (xa 4), .ref (xa 5)])), ((xa 0), .inl (cy 0, 1600, .inl (upd f349 (1 : Int32).toNatClampNeg (vp_nar .byte z358))))] H := hP
      have hD : va_D A [(hx0, .inr (11, [.ref (xa 0), .int 1, .int (-1), .ref (xa 1), .ref (xa 2), .ref (xa 3), .ref (xa 4), .ref (xa 5)])), ((xa 0), .inl (cy 0, 1600, .inl (upd f349 (1 : Int32).toNatClampNeg (vp_nar .byte z358))))] := hD
      generalize hff360 : (upd f349 (1 : Int32).toNatClampNeg (vp_nar .byte z358)) = f360 at hP hD
      refine lv_aload_n hx hb dX11_feed_57 rfl (lv_at hl 1 rfl) ?_
      refine lv_dup hx hb dX11_feed_58 rfl ?_
      refine va_get (D := D) (ci := 11) (v := .int 1) (C := RX11) (T := TX11) (N := 8) hx hb hT i_TX11 hown hK hP 0 rfl rfl 1 (by decide) (hT _ t_534) (fun _ h9 => h9) rfl dX11_feed_59 ?_
      refine lv_iconst (v := 1) hx hb dX11_feed_62 (by decide) ?_
      refine lv_iadd hx hb dX11_feed_63 ?_
      refine lv_topi (fun z361 e362 => ?_)
      obtain rfl : z361 = 2 := e362.trans (by first | decide | rfl)
      refine va_put (D := D) (ci := 11) (v := .int 2) (ty := .int) (C := RX11) (T := TX11) (N := 8) hx hb hT i_TX11 tyX11 tyX11_ok nmX11 hown hK hP hD hS 0 rfl rfl 1 (by decide) (hT _ t_534) (fun _ h9 => h9) rfl (by decide +kernel) rfl rfl (Nat.le_of_ble_eq_true rfl) dX11_feed_64 (fun H locs hP hD hS => ?_)
      have hP : va_P D vwCl [(hx0, .inr (11, [.ref (xa 0), .int 2, .int (-1), .ref (xa 1), .ref (xa 2), .ref (xa 3), .ref (xa 4), .ref (xa 5)])), ((xa 0), .inl (cy 0, 1600, .inl f360))] H := hP
      have hD : va_D A [(hx0, .inr (11, [.ref (xa 0), .int 2, .int (-1), .ref (xa 1), .ref (xa 2), .ref (xa 3), .ref (xa 4), .ref (xa 5)])), ((xa 0), .inl (cy 0, 1600, .inl f360))] := hD
      refine lv_iinc (v := 5) (lv' := [(4, .int 5), (0, .ref hx0), (1, .long p0), (3, .int (nI 8))]) hx hb dX11_feed_67 hl (k := 0) rfl (by decide) (by decide) rfl (fun ls hl => ?_)
      refine lv_goto (tgt := 34) hx hb dX11_feed_70 (by decide) ?_
      refine lv_iload hx hb dX11_feed_34 (lv_at hl 0 rfl) ?_
      refine lv_if_lt (tgt := 73) hx hb dX11_feed_36 (by decide) (fun c9 => absurd c9 (by decide)) (fun _ => ?_)
      refine lv_aload_n hx hb dX11_feed_39 rfl (lv_at hl 1 rfl) ?_
      refine va_get (D := D) (ci := 11) (v := .ref (xa 0)) (C := RX11) (T := TX11) (N := 8) hx hb hT i_TX11 hown hK hP 0 rfl rfl 0 (by decide) (hT _ t_533) (fun _ h9 => h9) rfl dX11_feed_40 ?_
      refine lv_aload_n hx hb dX11_feed_43 rfl (lv_at hl 1 rfl) ?_
      refine va_get (D := D) (ci := 11) (v := .int 2) (C := RX11) (T := TX11) (N := 8) hx hb hT i_TX11 hown hK hP 0 rfl rfl 1 (by decide) (hT _ t_534) (fun _ h9 => h9) rfl dX11_feed_44 ?_
      refine lv_lload_n hx hb dX11_feed_47 rfl (lv_at hl 2 rfl) ?_
      refine lv_bipush (v := 8) hx hb dX11_feed_48 (by decide) ?_
      refine lv_iload hx hb dX11_feed_50 (lv_at hl 0 rfl) ?_
      refine lv_imul hx hb dX11_feed_52 ?_
      refine lv_topi (fun z363 e364 => ?_)
      obtain rfl : z363 = 40 := e364.trans (by first | decide | rfl)
      refine lv_lushr hx hb dX11_feed_53 rfl ?_
      refine lv_topl (fun z365 e366 => ?_)
      refine lv_l2i hx hb dX11_feed_54 rfl ?_
      refine lv_topi (fun z367 e368 => ?_)
      refine lv_i2b hx hb dX11_feed_55 rfl ?_
      refine lv_topi (fun z369 e370 => ?_)
      refine va_bast hx hb hK hP hD hS 1 0 rfl rfl (vp_in_iff.mpr (by decide)) dX11_feed_56 (fun H locs hP hD hS => ?_)
      have hP : va_P D vwCl [(hx0, .inr (11, [.ref (xa 0), .int 2, .int (-1), .ref (xa 1), .ref (xa 2), .ref (xa 3), .ref (xa 4), .ref (xa 5)])), ((xa 0), .inl (cy 0, 1600, .inl (upd f360 (2 : Int32).toNatClampNeg (vp_nar .byte z369))))] H := hP
      have hD : va_D A [(hx0, .inr (11, [.ref (xa 0), .int 2, .int (-1), .ref (xa 1), .ref (xa 2), .ref (xa 3), .ref (xa 4), .ref (xa 5)])), ((xa 0), .inl (cy 0, 1600, .inl (upd f360 (2 : Int32).toNatClampNeg (vp_nar .byte z369))))] := hD
      generalize hff371 : (upd f360 (2 : Int32).toNatClampNeg (vp_nar .byte z369)) = f371 at hP hD
      refine lv_aload_n hx hb dX11_feed_57 rfl (lv_at hl 1 rfl) ?_
      refine lv_dup hx hb dX11_feed_58 rfl ?_
      refine va_get (D := D) (ci := 11) (v := .int 2) (C := RX11) (T := TX11) (N := 8) hx hb hT i_TX11 hown hK hP 0 rfl rfl 1 (by decide) (hT _ t_534) (fun _ h9 => h9) rfl dX11_feed_59 ?_
      refine lv_iconst (v := 1) hx hb dX11_feed_62 (by decide) ?_
      refine lv_iadd hx hb dX11_feed_63 ?_
      refine lv_topi (fun z372 e373 => ?_)
      obtain rfl : z372 = 3 := e373.trans (by first | decide | rfl)
      refine va_put (D := D) (ci := 11) (v := .int 3) (ty := .int) (C := RX11) (T := TX11) (N := 8) hx hb hT i_TX11 tyX11 tyX11_ok nmX11 hown hK hP hD hS 0 rfl rfl 1 (by decide) (hT _ t_534) (fun _ h9 => h9) rfl (by decide +kernel) rfl rfl (Nat.le_of_ble_eq_true rfl) dX11_feed_64 (fun H locs hP hD hS => ?_)
      have hP : va_P D vwCl [(hx0, .inr (11, [.ref (xa 0), .int 3, .int (-1), .ref (xa 1), .ref (xa 2), .ref (xa 3), .ref (xa 4), .ref (xa 5)])), ((xa 0), .inl (cy 0, 1600, .inl f371))] H := hP
      have hD : va_D A [(hx0, .inr (11, [.ref (xa 0), .int 3, .int (-1), .ref (xa 1), .ref (xa 2), .ref (xa 3), .ref (xa 4), .ref (xa 5)])), ((xa 0), .inl (cy 0, 1600, .inl f371))] := hD
      refine lv_iinc (v := 4) (lv' := [(4, .int 4), (0, .ref hx0), (1, .long p0), (3, .int (nI 8))]) hx hb dX11_feed_67 hl (k := 0) rfl (by decide) (by decide) rfl (fun ls hl => ?_)
      refine lv_goto (tgt := 34) hx hb dX11_feed_70 (by decide) ?_
      refine lv_iload hx hb dX11_feed_34 (lv_at hl 0 rfl) ?_
      refine lv_if_lt (tgt := 73) hx hb dX11_feed_36 (by decide) (fun c9 => absurd c9 (by decide)) (fun _ => ?_)
      refine lv_aload_n hx hb dX11_feed_39 rfl (lv_at hl 1 rfl) ?_
      refine va_get (D := D) (ci := 11) (v := .ref (xa 0)) (C := RX11) (T := TX11) (N := 8) hx hb hT i_TX11 hown hK hP 0 rfl rfl 0 (by decide) (hT _ t_533) (fun _ h9 => h9) rfl dX11_feed_40 ?_
      refine lv_aload_n hx hb dX11_feed_43 rfl (lv_at hl 1 rfl) ?_
      refine va_get (D := D) (ci := 11) (v := .int 3) (C := RX11) (T := TX11) (N := 8) hx hb hT i_TX11 hown hK hP 0 rfl rfl 1 (by decide) (hT _ t_534) (fun _ h9 => h9) rfl dX11_feed_44 ?_
      refine lv_lload_n hx hb dX11_feed_47 rfl (lv_at hl 2 rfl) ?_
      refine lv_bipush (v := 8) hx hb dX11_feed_48 (by decide) ?_
      refine lv_iload hx hb dX11_feed_50 (lv_at hl 0 rfl) ?_
      refine lv_imul hx hb dX11_feed_52 ?_
      refine lv_topi (fun z374 e375 => ?_)
      obtain rfl : z374 = 32 := e375.trans (by first | decide | rfl)
      refine lv_lushr hx hb dX11_feed_53 rfl ?_
      refine lv_topl (fun z376 e377 => ?_)
      refine lv_l2i hx hb dX11_feed_54 rfl ?_
      refine lv_topi (fun z378 e379 => ?_)
      refine lv_i2b hx hb dX11_feed_55 rfl ?_
      refine lv_topi (fun z380 e381 => ?_)
      refine va_bast hx hb hK hP hD hS 1 0 rfl rfl (vp_in_iff.mpr (by decide)) dX11_feed_56 (fun H locs hP hD hS => ?_)
      have hP : va_P D vwCl [(hx0, .inr (11, [.ref (xa 0), .int 3, .int (-1), .ref (xa 1), .ref (xa 2), .ref (xa 3), .ref (xa 4), .ref (xa 5)])), ((xa 0), .inl (cy 0, 1600, .inl (upd f371 (3 : Int32).toNatClampNeg (vp_nar .byte z380))))] H := hP
      have hD : va_D A [(hx0, .inr (11, [.ref (xa 0), .int 3, .int (-1), .ref (xa 1), .ref (xa 2), .ref (xa 3), .ref (xa 4), .ref (xa 5)])), ((xa 0), .inl (cy 0, 1600, .inl (upd f371 (3 : Int32).toNatClampNeg (vp_nar .byte z380))))] := hD
      generalize hff382 : (upd f371 (3 : Int32).toNatClampNeg (vp_nar .byte z380)) = f382 at hP hD
      refine lv_aload_n hx hb dX11_feed_57 rfl (lv_at hl 1 rfl) ?_
      refine lv_dup hx hb dX11_feed_58 rfl ?_
      refine va_get (D := D) (ci := 11) (v := .int 3) (C := RX11) (T := TX11) (N := 8) hx hb hT i_TX11 hown hK hP 0 rfl rfl 1 (by decide) (hT _ t_534) (fun _ h9 => h9) rfl dX11_feed_59 ?_
      refine lv_iconst (v := 1) hx hb dX11_feed_62 (by decide) ?_
      refine lv_iadd hx hb dX11_feed_63 ?_
      refine lv_topi (fun z383 e384 => ?_)
      obtain rfl : z383 = 4 := e384.trans (by first | decide | rfl)
      refine va_put (D := D) (ci := 11) (v := .int 4) (ty := .int) (C := RX11) (T := TX11) (N := 8) hx hb hT i_TX11 tyX11 tyX11_ok nmX11 hown hK hP hD hS 0 rfl rfl 1 (by decide) (hT _ t_534) (fun _ h9 => h9) rfl (by decide +kernel) rfl rfl (Nat.le_of_ble_eq_true rfl) dX11_feed_64 (fun H locs hP hD hS => ?_)
      have hP : va_P D vwCl [(hx0, .inr (11, [.ref (xa 0), .int 4, .int (-1), .ref (xa 1), .ref (xa 2), .ref (xa 3), .ref (xa 4), .ref (xa 5)])), ((xa 0), .inl (cy 0, 1600, .inl f382))] H := hP
      have hD : va_D A [(hx0, .inr (11, [.ref (xa 0), .int 4, .int (-1), .ref (xa 1), .ref (xa 2), .ref (xa 3), .ref (xa 4), .ref (xa 5)])), ((xa 0), .inl (cy 0, 1600, .inl f382))] := hD
      refine lv_iinc (v := 3) (lv' := [(4, .int 3), (0, .ref hx0), (1, .long p0), (3, .int (nI 8))]) hx hb dX11_feed_67 hl (k := 0) rfl (by decide) (by decide) rfl (fun ls hl => ?_)
      refine lv_goto (tgt := 34) hx hb dX11_feed_70 (by decide) ?_
      refine lv_iload hx hb dX11_feed_34 (lv_at hl 0 rfl) ?_
      refine lv_if_lt (tgt := 73) hx hb dX11_feed_36 (by decide) (fun c9 => absurd c9 (by decide)) (fun _ => ?_)
      refine lv_aload_n hx hb dX11_feed_39 rfl (lv_at hl 1 rfl) ?_
      refine va_get (D := D) (ci := 11) (v := .ref (xa 0)) (C := RX11) (T := TX11) (N := 8) hx hb hT i_TX11 hown hK hP 0 rfl rfl 0 (by decide) (hT _ t_533) (fun _ h9 => h9) rfl dX11_feed_40 ?_
      refine lv_aload_n hx hb dX11_feed_43 rfl (lv_at hl 1 rfl) ?_
      refine va_get (D := D) (ci := 11) (v := .int 4) (C := RX11) (T := TX11) (N := 8) hx hb hT i_TX11 hown hK hP 0 rfl rfl 1 (by decide) (hT _ t_534) (fun _ h9 => h9) rfl dX11_feed_44 ?_
      refine lv_lload_n hx hb dX11_feed_47 rfl (lv_at hl 2 rfl) ?_
      refine lv_bipush (v := 8) hx hb dX11_feed_48 (by decide) ?_
      refine lv_iload hx hb dX11_feed_50 (lv_at hl 0 rfl) ?_
      refine lv_imul hx hb dX11_feed_52 ?_
      refine lv_topi (fun z385 e386 => ?_)
      obtain rfl : z385 = 24 := e386.trans (by first | decide | rfl)
      refine lv_lushr hx hb dX11_feed_53 rfl ?_
      refine lv_topl (fun z387 e388 => ?_)
      refine lv_l2i hx hb dX11_feed_54 rfl ?_
      refine lv_topi (fun z389 e390 => ?_)
      refine lv_i2b hx hb dX11_feed_55 rfl ?_
      refine lv_topi (fun z391 e392 => ?_)
      refine va_bast hx hb hK hP hD hS 1 0 rfl rfl (vp_in_iff.mpr (by decide)) dX11_feed_56 (fun H locs hP hD hS => ?_)
      have hP : va_P D vwCl [(hx0, .inr (11, [.ref (xa 0), .int 4, .int (-1), .ref (xa 1), .ref (xa 2), .ref (xa 3), .ref (xa 4), .ref (xa 5)])), ((xa 0), .inl (cy 0, 1600, .inl (upd f382 (4 : Int32).toNatClampNeg (vp_nar .byte z391))))] H := hP
      have hD : va_D A [(hx0, .inr (11, [.ref (xa 0), .int 4, .int (-1), .ref (xa 1), .ref (xa 2), .ref (xa 3), .ref (xa 4), .ref (xa 5)])), ((xa 0), .inl (cy 0, 1600, .inl (upd f382 (4 : Int32).toNatClampNeg (vp_nar .byte z391))))] := hD
      generalize hff393 : (upd f382 (4 : Int32).toNatClampNeg (vp_nar .byte z391)) = f393 at hP hD
      refine lv_aload_n hx hb dX11_feed_57 rfl (lv_at hl 1 rfl) ?_
      refine lv_dup hx hb dX11_feed_58 rfl ?_
      refine va_get (D := D) (ci := 11) (v := .int 4) (C := RX11) (T := TX11) (N := 8) hx hb hT i_TX11 hown hK hP 0 rfl rfl 1 (by decide) (hT _ t_534) (fun _ h9 => h9) rfl dX11_feed_59 ?_
      refine lv_iconst (v := 1) hx hb dX11_feed_62 (by decide) ?_
      refine lv_iadd hx hb dX11_feed_63 ?_
      refine lv_topi (fun z394 e395 => ?_)
      obtain rfl : z394 = 5 := e395.trans (by first | decide | rfl)
      refine va_put (D := D) (ci := 11) (v := .int 5) (ty := .int) (C := RX11) (T := TX11) (N := 8) hx hb hT i_TX11 tyX11 tyX11_ok nmX11 hown hK hP hD hS 0 rfl rfl 1 (by decide) (hT _ t_534) (fun _ h9 => h9) rfl (by decide +kernel) rfl rfl (Nat.le_of_ble_eq_true rfl) dX11_feed_64 (fun H locs hP hD hS => ?_)
      have hP : va_P D vwCl [(hx0, .inr (11, [.ref (xa 0), .int 5, .int (-1), .ref (xa 1), .ref (xa 2), .ref (xa 3), .ref (xa 4), .ref (xa 5)])), ((xa 0), .inl (cy 0, 1600, .inl f393))] H := hP
      have hD : va_D A [(hx0, .inr (11, [.ref (xa 0), .int 5, .int (-1), .ref (xa 1), .ref (xa 2), .ref (xa 3), .ref (xa 4), .ref (xa 5)])), ((xa 0), .inl (cy 0, 1600, .inl f393))] := hD
      refine lv_iinc (v := 2) (lv' := [(4, .int 2), (0, .ref hx0), (1, .long p0), (3, .int (nI 8))]) hx hb dX11_feed_67 hl (k := 0) rfl (by decide) (by decide) rfl (fun ls hl => ?_)
      refine lv_goto (tgt := 34) hx hb dX11_feed_70 (by decide) ?_
      refine lv_iload hx hb dX11_feed_34 (lv_at hl 0 rfl) ?_
      refine lv_if_lt (tgt := 73) hx hb dX11_feed_36 (by decide) (fun c9 => absurd c9 (by decide)) (fun _ => ?_)
      refine lv_aload_n hx hb dX11_feed_39 rfl (lv_at hl 1 rfl) ?_
      refine va_get (D := D) (ci := 11) (v := .ref (xa 0)) (C := RX11) (T := TX11) (N := 8) hx hb hT i_TX11 hown hK hP 0 rfl rfl 0 (by decide) (hT _ t_533) (fun _ h9 => h9) rfl dX11_feed_40 ?_
      refine lv_aload_n hx hb dX11_feed_43 rfl (lv_at hl 1 rfl) ?_
      refine va_get (D := D) (ci := 11) (v := .int 5) (C := RX11) (T := TX11) (N := 8) hx hb hT i_TX11 hown hK hP 0 rfl rfl 1 (by decide) (hT _ t_534) (fun _ h9 => h9) rfl dX11_feed_44 ?_
      refine lv_lload_n hx hb dX11_feed_47 rfl (lv_at hl 2 rfl) ?_
      refine lv_bipush (v := 8) hx hb dX11_feed_48 (by decide) ?_
      refine lv_iload hx hb dX11_feed_50 (lv_at hl 0 rfl) ?_
      refine lv_imul hx hb dX11_feed_52 ?_
      refine lv_topi (fun z396 e397 => ?_)
      obtain rfl : z396 = 16 := e397.trans (by first | decide | rfl)
      refine lv_lushr hx hb dX11_feed_53 rfl ?_
      refine lv_topl (fun z398 e399 => ?_)
      refine lv_l2i hx hb dX11_feed_54 rfl ?_
      refine lv_topi (fun z400 e401 => ?_)
      refine lv_i2b hx hb dX11_feed_55 rfl ?_
      refine lv_topi (fun z402 e403 => ?_)
      refine va_bast hx hb hK hP hD hS 1 0 rfl rfl (vp_in_iff.mpr (by decide)) dX11_feed_56 (fun H locs hP hD hS => ?_)
      have hP : va_P D vwCl [(hx0, .inr (11, [.ref (xa 0), .int 5, .int (-1), .ref (xa 1), .ref (xa 2), .ref (xa 3), .ref (xa 4), .ref (xa 5)])), ((xa 0), .inl (cy 0, 1600, .inl (upd f393 (5 : Int32).toNatClampNeg (vp_nar .byte z402))))] H := hP
      have hD : va_D A [(hx0, .inr (11, [.ref (xa 0), .int 5, .int (-1), .ref (xa 1), .ref (xa 2), .ref (xa 3), .ref (xa 4), .ref (xa 5)])), ((xa 0), .inl (cy 0, 1600, .inl (upd f393 (5 : Int32).toNatClampNeg (vp_nar .byte z402))))] := hD
      generalize hff404 : (upd f393 (5 : Int32).toNatClampNeg (vp_nar .byte z402)) = f404 at hP hD
      refine lv_aload_n hx hb dX11_feed_57 rfl (lv_at hl 1 rfl) ?_
      refine lv_dup hx hb dX11_feed_58 rfl ?_
      refine va_get (D := D) (ci := 11) (v := .int 5) (C := RX11) (T := TX11) (N := 8) hx hb hT i_TX11 hown hK hP 0 rfl rfl 1 (by decide) (hT _ t_534) (fun _ h9 => h9) rfl dX11_feed_59 ?_
      refine lv_iconst (v := 1) hx hb dX11_feed_62 (by decide) ?_
      refine lv_iadd hx hb dX11_feed_63 ?_
      refine lv_topi (fun z405 e406 => ?_)
      obtain rfl : z405 = 6 := e406.trans (by first | decide | rfl)
      refine va_put (D := D) (ci := 11) (v := .int 6) (ty := .int) (C := RX11) (T := TX11) (N := 8) hx hb hT i_TX11 tyX11 tyX11_ok nmX11 hown hK hP hD hS 0 rfl rfl 1 (by decide) (hT _ t_534) (fun _ h9 => h9) rfl (by decide +kernel) rfl rfl (Nat.le_of_ble_eq_true rfl) dX11_feed_64 (fun H locs hP hD hS => ?_)
      have hP : va_P D vwCl [(hx0, .inr (11, [.ref (xa 0), .int 6, .int (-1), .ref (xa 1), .ref (xa 2), .ref (xa 3), .ref (xa 4), .ref (xa 5)])), ((xa 0), .inl (cy 0, 1600, .inl f404))] H := hP
      have hD : va_D A [(hx0, .inr (11, [.ref (xa 0), .int 6, .int (-1), .ref (xa 1), .ref (xa 2), .ref (xa 3), .ref (xa 4), .ref (xa 5)])), ((xa 0), .inl (cy 0, 1600, .inl f404))] := hD
      refine lv_iinc (v := 1) (lv' := [(4, .int 1), (0, .ref hx0), (1, .long p0), (3, .int (nI 8))]) hx hb dX11_feed_67 hl (k := 0) rfl (by decide) (by decide) rfl (fun ls hl => ?_)
      refine lv_goto (tgt := 34) hx hb dX11_feed_70 (by decide) ?_
      refine lv_iload hx hb dX11_feed_34 (lv_at hl 0 rfl) ?_
      refine lv_if_lt (tgt := 73) hx hb dX11_feed_36 (by decide) (fun c9 => absurd c9 (by decide)) (fun _ => ?_)
      refine lv_aload_n hx hb dX11_feed_39 rfl (lv_at hl 1 rfl) ?_
      refine va_get (D := D) (ci := 11) (v := .ref (xa 0)) (C := RX11) (T := TX11) (N := 8) hx hb hT i_TX11 hown hK hP 0 rfl rfl 0 (by decide) (hT _ t_533) (fun _ h9 => h9) rfl dX11_feed_40 ?_
      refine lv_aload_n hx hb dX11_feed_43 rfl (lv_at hl 1 rfl) ?_
      refine va_get (D := D) (ci := 11) (v := .int 6) (C := RX11) (T := TX11) (N := 8) hx hb hT i_TX11 hown hK hP 0 rfl rfl 1 (by decide) (hT _ t_534) (fun _ h9 => h9) rfl dX11_feed_44 ?_
      refine lv_lload_n hx hb dX11_feed_47 rfl (lv_at hl 2 rfl) ?_
      refine lv_bipush (v := 8) hx hb dX11_feed_48 (by decide) ?_
      refine lv_iload hx hb dX11_feed_50 (lv_at hl 0 rfl) ?_
      refine lv_imul hx hb dX11_feed_52 ?_
      refine lv_topi (fun z407 e408 => ?_)
      obtain rfl : z407 = 8 := e408.trans (by first | decide | rfl)
      refine lv_lushr hx hb dX11_feed_53 rfl ?_
      refine lv_topl (fun z409 e410 => ?_)
      refine lv_l2i hx hb dX11_feed_54 rfl ?_
      refine lv_topi (fun z411 e412 => ?_)
      refine lv_i2b hx hb dX11_feed_55 rfl ?_
      refine lv_topi (fun z413 e414 => ?_)
      refine va_bast hx hb hK hP hD hS 1 0 rfl rfl (vp_in_iff.mpr (by decide)) dX11_feed_56 (fun H locs hP hD hS => ?_)
      have hP : va_P D vwCl [(hx0, .inr (11, [.ref (xa 0), .int 6, .int (-1), .ref (xa 1), .ref (xa 2), .ref (xa 3), .ref (xa 4), .ref (xa 5)])), ((xa 0), .inl (cy 0, 1600, .inl (upd f404 (6 : Int32).toNatClampNeg (vp_nar .byte z413))))] H := hP
      have hD : va_D A [(hx0, .inr (11, [.ref (xa 0), .int 6, .int (-1), .ref (xa 1), .ref (xa 2), .ref (xa 3), .ref (xa 4), .ref (xa 5)])), ((xa 0), .inl (cy 0, 1600, .inl (upd f404 (6 : Int32).toNatClampNeg (vp_nar .byte z413))))] := hD
      generalize hff415 : (upd f404 (6 : Int32).toNatClampNeg (vp_nar .byte z413)) = f415 at hP hD
      refine lv_aload_n hx hb dX11_feed_57 rfl (lv_at hl 1 rfl) ?_
      refine lv_dup hx hb dX11_feed_58 rfl ?_
      refine va_get (D := D) (ci := 11) (v := .int 6) (C := RX11) (T := TX11) (N := 8) hx hb hT i_TX11 hown hK hP 0 rfl rfl 1 (by decide) (hT _ t_534) (fun _ h9 => h9) rfl dX11_feed_59 ?_
      refine lv_iconst (v := 1) hx hb dX11_feed_62 (by decide) ?_
      refine lv_iadd hx hb dX11_feed_63 ?_
      refine lv_topi (fun z416 e417 => ?_)
      obtain rfl : z416 = 7 := e417.trans (by first | decide | rfl)
      refine va_put (D := D) (ci := 11) (v := .int 7) (ty := .int) (C := RX11) (T := TX11) (N := 8) hx hb hT i_TX11 tyX11 tyX11_ok nmX11 hown hK hP hD hS 0 rfl rfl 1 (by decide) (hT _ t_534) (fun _ h9 => h9) rfl (by decide +kernel) rfl rfl (Nat.le_of_ble_eq_true rfl) dX11_feed_64 (fun H locs hP hD hS => ?_)
      have hP : va_P D vwCl [(hx0, .inr (11, [.ref (xa 0), .int 7, .int (-1), .ref (xa 1), .ref (xa 2), .ref (xa 3), .ref (xa 4), .ref (xa 5)])), ((xa 0), .inl (cy 0, 1600, .inl f415))] H := hP
      have hD : va_D A [(hx0, .inr (11, [.ref (xa 0), .int 7, .int (-1), .ref (xa 1), .ref (xa 2), .ref (xa 3), .ref (xa 4), .ref (xa 5)])), ((xa 0), .inl (cy 0, 1600, .inl f415))] := hD
      refine lv_iinc (v := 0) (lv' := [(4, .int 0), (0, .ref hx0), (1, .long p0), (3, .int (nI 8))]) hx hb dX11_feed_67 hl (k := 0) rfl (by decide) (by decide) rfl (fun ls hl => ?_)
      refine lv_goto (tgt := 34) hx hb dX11_feed_70 (by decide) ?_
      refine lv_iload hx hb dX11_feed_34 (lv_at hl 0 rfl) ?_
      refine lv_if_lt (tgt := 73) hx hb dX11_feed_36 (by decide) (fun c9 => absurd c9 (by decide)) (fun _ => ?_)
      refine lv_aload_n hx hb dX11_feed_39 rfl (lv_at hl 1 rfl) ?_
      refine va_get (D := D) (ci := 11) (v := .ref (xa 0)) (C := RX11) (T := TX11) (N := 8) hx hb hT i_TX11 hown hK hP 0 rfl rfl 0 (by decide) (hT _ t_533) (fun _ h9 => h9) rfl dX11_feed_40 ?_
      refine lv_aload_n hx hb dX11_feed_43 rfl (lv_at hl 1 rfl) ?_
      refine va_get (D := D) (ci := 11) (v := .int 7) (C := RX11) (T := TX11) (N := 8) hx hb hT i_TX11 hown hK hP 0 rfl rfl 1 (by decide) (hT _ t_534) (fun _ h9 => h9) rfl dX11_feed_44 ?_
      refine lv_lload_n hx hb dX11_feed_47 rfl (lv_at hl 2 rfl) ?_
      refine lv_bipush (v := 8) hx hb dX11_feed_48 (by decide) ?_
      refine lv_iload hx hb dX11_feed_50 (lv_at hl 0 rfl) ?_
      refine lv_imul hx hb dX11_feed_52 ?_
      refine lv_topi (fun z418 e419 => ?_)
      obtain rfl : z418 = 0 := e419.trans (by first | decide | rfl)
      refine lv_lushr hx hb dX11_feed_53 rfl ?_
      refine lv_topl (fun z420 e421 => ?_)
      refine lv_l2i hx hb dX11_feed_54 rfl ?_
      refine lv_topi (fun z422 e423 => ?_)
      refine lv_i2b hx hb dX11_feed_55 rfl ?_
      refine lv_topi (fun z424 e425 => ?_)
      refine va_bast hx hb hK hP hD hS 1 0 rfl rfl (vp_in_iff.mpr (by decide)) dX11_feed_56 (fun H locs hP hD hS => ?_)
      have hP : va_P D vwCl [(hx0, .inr (11, [.ref (xa 0), .int 7, .int (-1), .ref (xa 1), .ref (xa 2), .ref (xa 3), .ref (xa 4), .ref (xa 5)])), ((xa 0), .inl (cy 0, 1600, .inl (upd f415 (7 : Int32).toNatClampNeg (vp_nar .byte z424))))] H := hP
      have hD : va_D A [(hx0, .inr (11, [.ref (xa 0), .int 7, .int (-1), .ref (xa 1), .ref (xa 2), .ref (xa 3), .ref (xa 4), .ref (xa 5)])), ((xa 0), .inl (cy 0, 1600, .inl (upd f415 (7 : Int32).toNatClampNeg (vp_nar .byte z424))))] := hD
      generalize hff426 : (upd f415 (7 : Int32).toNatClampNeg (vp_nar .byte z424)) = f426 at hP hD
      refine lv_aload_n hx hb dX11_feed_57 rfl (lv_at hl 1 rfl) ?_
      refine lv_dup hx hb dX11_feed_58 rfl ?_
      refine va_get (D := D) (ci := 11) (v := .int 7) (C := RX11) (T := TX11) (N := 8) hx hb hT i_TX11 hown hK hP 0 rfl rfl 1 (by decide) (hT _ t_534) (fun _ h9 => h9) rfl dX11_feed_59 ?_
      refine lv_iconst (v := 1) hx hb dX11_feed_62 (by decide) ?_
      refine lv_iadd hx hb dX11_feed_63 ?_
      refine lv_topi (fun z427 e428 => ?_)
      obtain rfl : z427 = 8 := e428.trans (by first | decide | rfl)
      refine va_put (D := D) (ci := 11) (v := .int 8) (ty := .int) (C := RX11) (T := TX11) (N := 8) hx hb hT i_TX11 tyX11 tyX11_ok nmX11 hown hK hP hD hS 0 rfl rfl 1 (by decide) (hT _ t_534) (fun _ h9 => h9) rfl (by decide +kernel) rfl rfl (Nat.le_of_ble_eq_true rfl) dX11_feed_64 (fun H locs hP hD hS => ?_)
      have hP : va_P D vwCl [(hx0, .inr (11, [.ref (xa 0), .int 8, .int (-1), .ref (xa 1), .ref (xa 2), .ref (xa 3), .ref (xa 4), .ref (xa 5)])), ((xa 0), .inl (cy 0, 1600, .inl f426))] H := hP
      have hD : va_D A [(hx0, .inr (11, [.ref (xa 0), .int 8, .int (-1), .ref (xa 1), .ref (xa 2), .ref (xa 3), .ref (xa 4), .ref (xa 5)])), ((xa 0), .inl (cy 0, 1600, .inl f426))] := hD
      refine lv_iinc (v := (-1)) (lv' := [(4, .int (-1)), (0, .ref hx0), (1, .long p0), (3, .int (nI 8))]) hx hb dX11_feed_67 hl (k := 0) rfl (by decide) (by decide) rfl (fun ls hl => ?_)
      refine lv_goto (tgt := 34) hx hb dX11_feed_70 (by decide) ?_
      refine lv_iload hx hb dX11_feed_34 (lv_at hl 0 rfl) ?_
      refine lv_if_lt (tgt := 73) hx hb dX11_feed_36 (by decide) (fun _ => ?_) (fun c9 => absurd (by decide) c9)
      refine lv_aload_n hx hb dX11_feed_73 rfl (lv_at hl 1 rfl) ?_
      refine va_get (D := D) (ci := 11) (v := .int 8) (C := RX11) (T := TX11) (N := 8) hx hb hT i_TX11 hown hK hP 0 rfl rfl 1 (by decide) (hT _ t_534) (fun _ h9 => h9) rfl dX11_feed_74 ?_
      have hP9 := hP.sub (ws' := []) [] rfl
      have hD9 := hD.sub (ws' := []) [] (by decide) rfl
      refine W.widen (k := 0) (n := 0) (Nat.le_of_ble_eq_true rfl) (Nat.le_of_ble_eq_true rfl) ?_
      exact W.iret (v := 8) hx hb hr (fun t ht hW => ⟨⟨8, (), rfl, (by decide), by rw [ht]; exact hP9, hD9⟩, hS.F ht⟩) hS.2.2 dX11_feed_77

set_option maxHeartbeats 4000000 in
set_option maxRecDepth 100000 in
theorem m_feed (l : Launch) (D : va_G) (cy : Nat → ClassId) (sz : Nat) (hm : Nat) (ma : Nat → Nat) (p0 : Int64) (p1 : Int32) : Met l yX12_feed (.code yX12_feed cX12_feed 5 (some .int) :: TB) ({ frames := 0, cells := 0, slots := 0, locals := 0 }) (va_Pc [.ref hm, .long p0, .int p1] (fun U => U.heap.size = sz ∧ va_P D vwCl [(hm, .inr (12, [.int 0, .ref (ma 1), .int 0, .int (-1), .ref (ma 4), .int 0, .int 0, .int 0, .long 0, .int 0, .int 0, .int 0, .int 0, .long 0, .int 0, .int 0, .int 0, .ref (ma 17), .ref (ma 18), .ref (ma 19), .ref (ma 20), .ref (ma 21), .ref (ma 22), .ref (ma 23), .ref (ma 24), .ref (ma 25), .ref (ma 26), .ref (ma 27), .ref (ma 28), .ref (ma 29), .ref (ma 30), .ref (ma 31), .ref (ma 32), .ref (ma 33), .ref (ma 34), .ref (ma 35), .ref (ma 36), .ref (ma 37), .ref (ma 38), .ref (ma 39), .ref (ma 40), .ref (ma 41), .ref (ma 42), .ref (ma 43), .ref (ma 44), .ref (ma 45), .ref (ma 46), .ref (ma 47), .ref (ma 48), .int 0, .int 0, .int 0, .int 0, .int 0, .int 0, .int 0, .int 0, .int 0, .int 0, .ref (ma 59), .ref (ma 60), .int 0, .int 0, .int 0, .int 0, .int 0, .int 0, .ref (ma 67), .ref (ma 68), .ref (ma 69), .int 0, .int (-1), .int 0, .ref (ma 73)])), ((ma 1), .inl (cy 0, 1600, .inl (fun _ => 0)))] U.heap ∧ va_K D vwCl (TY cy) U ∧ va_D (fun _ => True) [(hm, .inr (12, [.int 0, .ref (ma 1), .int 0, .int (-1), .ref (ma 4), .int 0, .int 0, .int 0, .long 0, .int 0, .int 0, .int 0, .int 0, .long 0, .int 0, .int 0, .int 0, .ref (ma 17), .ref (ma 18), .ref (ma 19), .ref (ma 20), .ref (ma 21), .ref (ma 22), .ref (ma 23), .ref (ma 24), .ref (ma 25), .ref (ma 26), .ref (ma 27), .ref (ma 28), .ref (ma 29), .ref (ma 30), .ref (ma 31), .ref (ma 32), .ref (ma 33), .ref (ma 34), .ref (ma 35), .ref (ma 36), .ref (ma 37), .ref (ma 38), .ref (ma 39), .ref (ma 40), .ref (ma 41), .ref (ma 42), .ref (ma 43), .ref (ma 44), .ref (ma 45), .ref (ma 46), .ref (ma 47), .ref (ma 48), .int 0, .int 0, .int 0, .int 0, .int 0, .int 0, .int 0, .int 0, .int 0, .int 0, .ref (ma 59), .ref (ma 60), .int 0, .int 0, .int 0, .int 0, .int 0, .int 0, .ref (ma 67), .ref (ma 68), .ref (ma 69), .int 0, .int (-1), .int 0, .ref (ma 73)])), ((ma 1), .inl (cy 0, 1600, .inl (fun _ => 0)))])) (va_Qi (fun (r : Int32) (u : Unit) => r = fd p1) (fun (u : Unit) t => va_P D vwCl [] t.heap ∧ va_D (va_A [(hm, .inr (12, [.int 0, .ref (ma 1), .int 0, .int (-1), .ref (ma 4), .int 0, .int 0, .int 0, .long 0, .int 0, .int 0, .int 0, .int 0, .long 0, .int 0, .int 0, .int 0, .ref (ma 17), .ref (ma 18), .ref (ma 19), .ref (ma 20), .ref (ma 21), .ref (ma 22), .ref (ma 23), .ref (ma 24), .ref (ma 25), .ref (ma 26), .ref (ma 27), .ref (ma 28), .ref (ma 29), .ref (ma 30), .ref (ma 31), .ref (ma 32), .ref (ma 33), .ref (ma 34), .ref (ma 35), .ref (ma 36), .ref (ma 37), .ref (ma 38), .ref (ma 39), .ref (ma 40), .ref (ma 41), .ref (ma 42), .ref (ma 43), .ref (ma 44), .ref (ma 45), .ref (ma 46), .ref (ma 47), .ref (ma 48), .int 0, .int 0, .int 0, .int 0, .int 0, .int 0, .int 0, .int 0, .int 0, .int 0, .ref (ma 59), .ref (ma 60), .int 0, .int 0, .int 0, .int 0, .int 0, .int 0, .ref (ma 67), .ref (ma 68), .ref (ma 69), .int 0, .int (-1), .int 0, .ref (ma 73)])), ((ma 1), .inl (cy 0, 1600, .inl (fun _ => 0)))] sz) []) (va_A [(hm, .inr (12, [.int 0, .ref (ma 1), .int 0, .int (-1), .ref (ma 4), .int 0, .int 0, .int 0, .long 0, .int 0, .int 0, .int 0, .int 0, .long 0, .int 0, .int 0, .int 0, .ref (ma 17), .ref (ma 18), .ref (ma 19), .ref (ma 20), .ref (ma 21), .ref (ma 22), .ref (ma 23), .ref (ma 24), .ref (ma 25), .ref (ma 26), .ref (ma 27), .ref (ma 28), .ref (ma 29), .ref (ma 30), .ref (ma 31), .ref (ma 32), .ref (ma 33), .ref (ma 34), .ref (ma 35), .ref (ma 36), .ref (ma 37), .ref (ma 38), .ref (ma 39), .ref (ma 40), .ref (ma 41), .ref (ma 42), .ref (ma 43), .ref (ma 44), .ref (ma 45), .ref (ma 46), .ref (ma 47), .ref (ma 48), .int 0, .int 0, .int 0, .int 0, .int 0, .int 0, .int 0, .int 0, .int 0, .int 0, .ref (ma 59), .ref (ma 60), .int 0, .int 0, .int 0, .int 0, .int 0, .int 0, .ref (ma 67), .ref (ma 68), .ref (ma 69), .int 0, .int (-1), .int 0, .ref (ma 73)])), ((ma 1), .inl (cy 0, 1600, .inl (fun _ => 0)))] sz)) 0 0 (va_A [(hm, .inr (12, [.int 0, .ref (ma 1), .int 0, .int (-1), .ref (ma 4), .int 0, .int 0, .int 0, .long 0, .int 0, .int 0, .int 0, .int 0, .long 0, .int 0, .int 0, .int 0, .ref (ma 17), .ref (ma 18), .ref (ma 19), .ref (ma 20), .ref (ma 21), .ref (ma 22), .ref (ma 23), .ref (ma 24), .ref (ma 25), .ref (ma 26), .ref (ma 27), .ref (ma 28), .ref (ma 29), .ref (ma 30), .ref (ma 31), .ref (ma 32), .ref (ma 33), .ref (ma 34), .ref (ma 35), .ref (ma 36), .ref (ma 37), .ref (ma 38), .ref (ma 39), .ref (ma 40), .ref (ma 41), .ref (ma 42), .ref (ma 43), .ref (ma 44), .ref (ma 45), .ref (ma 46), .ref (ma 47), .ref (ma 48), .int 0, .int 0, .int 0, .int 0, .int 0, .int 0, .int 0, .int 0, .int 0, .int 0, .ref (ma 59), .ref (ma 60), .int 0, .int 0, .int 0, .int 0, .int 0, .int 0, .ref (ma 67), .ref (ma 68), .ref (ma 69), .int 0, .int (-1), .int 0, .ref (ma 73)])), ((ma 1), .inl (cy 0, 1600, .inl (fun _ => 0)))] sz) := by
  refine Met.ofW (cc := cX12_feed) (maxL := 5) (ret := (some .int)) (by decide) rfl ?_
  intro p e s m args below meth c s₁ B hml hv
  obtain ⟨rfl, hsz, hP, hK, hD0⟩ := hv
  have hx := B.exec
  have hb := B.bytes
  have hr := B.returns
  have hts := atoms_spec (ws := .code yX12_feed cX12_feed 5 (some .int) :: TB) B.pre
  have hT : ∀ w ∈ TB, w.before _ s = true := fun w h => hts w (List.mem_cons_of_mem _ h)
  have hown : s.vm.findClass "MakerStartsModel" = some m.cls := findClass_of_methodNamed B.named
  have hlocks := B.notSynchronized
  subst hsz
  have hD := hD0.self (sz := s.heap.size)
  generalize hAe : va_A [(hm, .inr (12, [.int 0, .ref (ma 1), .int 0, .int (-1), .ref (ma 4), .int 0, .int 0, .int 0, .long 0, .int 0, .int 0, .int 0, .int 0, .long 0, .int 0, .int 0, .int 0, .ref (ma 17), .ref (ma 18), .ref (ma 19), .ref (ma 20), .ref (ma 21), .ref (ma 22), .ref (ma 23), .ref (ma 24), .ref (ma 25), .ref (ma 26), .ref (ma 27), .ref (ma 28), .ref (ma 29), .ref (ma 30), .ref (ma 31), .ref (ma 32), .ref (ma 33), .ref (ma 34), .ref (ma 35), .ref (ma 36), .ref (ma 37), .ref (ma 38), .ref (ma 39), .ref (ma 40), .ref (ma 41), .ref (ma 42), .ref (ma 43), .ref (ma 44), .ref (ma 45), .ref (ma 46), .ref (ma 47), .ref (ma 48), .int 0, .int 0, .int 0, .int 0, .int 0, .int 0, .int 0, .int 0, .int 0, .int 0, .ref (ma 59), .ref (ma 60), .int 0, .int 0, .int 0, .int 0, .int 0, .int 0, .ref (ma 67), .ref (ma 68), .ref (ma 69), .int 0, .int (-1), .int 0, .ref (ma 73)])), ((ma 1), .inl (cy 0, 1600, .inl (fun _ => 0)))] s.heap.size = A at hD  ⊢
  have hA : ∀ q : Nat, s.heap.size ≤ q → A q := fun q h => by rw [← hAe]; exact Or.inr h
  have hS : va_S A s.heap s.heap [] := va_S.rf
  have hP : va_P D vwCl [(hm, .inr (12, [.int 0, .ref (ma 1), .int 0, .int (-1), .ref (ma 4), .int 0, .int 0, .int 0, .long 0, .int 0, .int 0, .int 0, .int 0, .long 0, .int 0, .int 0, .int 0, .ref (ma 17), .ref (ma 18), .ref (ma 19), .ref (ma 20), .ref (ma 21), .ref (ma 22), .ref (ma 23), .ref (ma 24), .ref (ma 25), .ref (ma 26), .ref (ma 27), .ref (ma 28), .ref (ma 29), .ref (ma 30), .ref (ma 31), .ref (ma 32), .ref (ma 33), .ref (ma 34), .ref (ma 35), .ref (ma 36), .ref (ma 37), .ref (ma 38), .ref (ma 39), .ref (ma 40), .ref (ma 41), .ref (ma 42), .ref (ma 43), .ref (ma 44), .ref (ma 45), .ref (ma 46), .ref (ma 47), .ref (ma 48), .int 0, .int 0, .int 0, .int 0, .int 0, .int 0, .int 0, .int 0, .int 0, .int 0, .ref (ma 59), .ref (ma 60), .int 0, .int 0, .int 0, .int 0, .int 0, .int 0, .ref (ma 67), .ref (ma 68), .ref (ma 69), .int 0, .int (-1), .int 0, .ref (ma 73)])), ((ma 1), .inl (cy 0, 1600, .inl (fun _ => 0)))] s.heap := hP
  have hl := lv_entry ([.ref hm, .long p0, .int p1]) (n := 5) (Nat.le_of_ble_eq_true rfl)
  rw [lg_entry_eq]
  generalize (lg_sl ([.ref hm, .long p0, .int p1]) ++ List.replicate (5 - (lg_sl ([.ref hm, .long p0, .int p1])).length) Slot.unset).toArray = ls at hl ⊢
  have hl : lv_has ls 5 [(0, .ref hm), (1, .long p0), (3, .int p1)] := hl
  rcases pk_ix p1 (n := 9) (by decide) with h9 | h9 | ⟨j9, hj9, rfl⟩
  · refine lv_aload_n hx hb dX12_feed_0 rfl (lv_at hl 0 rfl) ?_
    refine lv_iconst (v := 0) hx hb dX12_feed_1 (by decide) ?_
    refine va_put (D := D) (ci := 12) (v := .int 0) (ty := .int) (C := RX12) (T := TX12) (N := 74) hx hb hT i_TX12 tyX12 tyX12_ok nmX12 hown hK hP hD hS 0 rfl rfl 0 (by decide) (hT _ t_1715) (fun _ h9 => h9) rfl (by decide +kernel) rfl rfl (Nat.le_of_ble_eq_true rfl) dX12_feed_2 (fun H locs hP hD hS => ?_)
    have hP : va_P D vwCl [(hm, .inr (12, [.int 0, .ref (ma 1), .int 0, .int (-1), .ref (ma 4), .int 0, .int 0, .int 0, .long 0, .int 0, .int 0, .int 0, .int 0, .long 0, .int 0, .int 0, .int 0, .ref (ma 17), .ref (ma 18), .ref (ma 19), .ref (ma 20), .ref (ma 21), .ref (ma 22), .ref (ma 23), .ref (ma 24), .ref (ma 25), .ref (ma 26), .ref (ma 27), .ref (ma 28), .ref (ma 29), .ref (ma 30), .ref (ma 31), .ref (ma 32), .ref (ma 33), .ref (ma 34), .ref (ma 35), .ref (ma 36), .ref (ma 37), .ref (ma 38), .ref (ma 39), .ref (ma 40), .ref (ma 41), .ref (ma 42), .ref (ma 43), .ref (ma 44), .ref (ma 45), .ref (ma 46), .ref (ma 47), .ref (ma 48), .int 0, .int 0, .int 0, .int 0, .int 0, .int 0, .int 0, .int 0, .int 0, .int 0, .ref (ma 59), .ref (ma 60), .int 0, .int 0, .int 0, .int 0, .int 0, .int 0, .ref (ma 67), .ref (ma 68), .ref (ma 69), .int 0, .int (-1), .int 0, .ref (ma 73)])), ((ma 1), .inl (cy 0, 1600, .inl (fun _ => 0)))] H := hP
    have hD : va_D A [(hm, .inr (12, [.int 0, .ref (ma 1), .int 0, .int (-1), .ref (ma 4), .int 0, .int 0, .int 0, .long 0, .int 0, .int 0, .int 0, .int 0, .long 0, .int 0, .int 0, .int 0, .ref (ma 17), .ref (ma 18), .ref (ma 19), .ref (ma 20), .ref (ma 21), .ref (ma 22), .ref (ma 23), .ref (ma 24), .ref (ma 25), .ref (ma 26), .ref (ma 27), .ref (ma 28), .ref (ma 29), .ref (ma 30), .ref (ma 31), .ref (ma 32), .ref (ma 33), .ref (ma 34), .ref (ma 35), .ref (ma 36), .ref (ma 37), .ref (ma 38), .ref (ma 39), .ref (ma 40), .ref (ma 41), .ref (ma 42), .ref (ma 43), .ref (ma 44), .ref (ma 45), .ref (ma 46), .ref (ma 47), .ref (ma 48), .int 0, .int 0, .int 0, .int 0, .int 0, .int 0, .int 0, .int 0, .int 0, .int 0, .ref (ma 59), .ref (ma 60), .int 0, .int 0, .int 0, .int 0, .int 0, .int 0, .ref (ma 67), .ref (ma 68), .ref (ma 69), .int 0, .int (-1), .int 0, .ref (ma 73)])), ((ma 1), .inl (cy 0, 1600, .inl (fun _ => 0)))] := hD
    refine lv_iload_n hx hb dX12_feed_5 rfl (lv_at hl 2 rfl) ?_
    refine lv_iconst (v := 1) hx hb dX12_feed_6 (by decide) ?_
    refine lv_icmp_lt (tgt := 16) hx hb dX12_feed_7 (by decide) (fun _ => ?_) (fun c9 => absurd (fd_n h9) c9)
    refine lv_bipush (v := (-2)) hx hb dX12_feed_16 (by decide) ?_
    have hP9 := hP.sub (ws' := []) [] rfl
    have hD9 := hD.sub (ws' := []) [] (by decide) rfl
    refine W.widen (k := 0) (n := 0) (Nat.le_of_ble_eq_true rfl) (Nat.le_of_ble_eq_true rfl) ?_
    exact W.iret (v := (-2)) hx hb hr (fun t ht hW => ⟨⟨(-2), (), rfl, (fd_nv h9).symm, by rw [ht]; exact hP9, hD9⟩, hS.F ht⟩) hS.2.2 dX12_feed_18
  · refine lv_aload_n hx hb dX12_feed_0 rfl (lv_at hl 0 rfl) ?_
    refine lv_iconst (v := 0) hx hb dX12_feed_1 (by decide) ?_
    refine va_put (D := D) (ci := 12) (v := .int 0) (ty := .int) (C := RX12) (T := TX12) (N := 74) hx hb hT i_TX12 tyX12 tyX12_ok nmX12 hown hK hP hD hS 0 rfl rfl 0 (by decide) (hT _ t_1715) (fun _ h9 => h9) rfl (by decide +kernel) rfl rfl (Nat.le_of_ble_eq_true rfl) dX12_feed_2 (fun H locs hP hD hS => ?_)
    have hP : va_P D vwCl [(hm, .inr (12, [.int 0, .ref (ma 1), .int 0, .int (-1), .ref (ma 4), .int 0, .int 0, .int 0, .long 0, .int 0, .int 0, .int 0, .int 0, .long 0, .int 0, .int 0, .int 0, .ref (ma 17), .ref (ma 18), .ref (ma 19), .ref (ma 20), .ref (ma 21), .ref (ma 22), .ref (ma 23), .ref (ma 24), .ref (ma 25), .ref (ma 26), .ref (ma 27), .ref (ma 28), .ref (ma 29), .ref (ma 30), .ref (ma 31), .ref (ma 32), .ref (ma 33), .ref (ma 34), .ref (ma 35), .ref (ma 36), .ref (ma 37), .ref (ma 38), .ref (ma 39), .ref (ma 40), .ref (ma 41), .ref (ma 42), .ref (ma 43), .ref (ma 44), .ref (ma 45), .ref (ma 46), .ref (ma 47), .ref (ma 48), .int 0, .int 0, .int 0, .int 0, .int 0, .int 0, .int 0, .int 0, .int 0, .int 0, .ref (ma 59), .ref (ma 60), .int 0, .int 0, .int 0, .int 0, .int 0, .int 0, .ref (ma 67), .ref (ma 68), .ref (ma 69), .int 0, .int (-1), .int 0, .ref (ma 73)])), ((ma 1), .inl (cy 0, 1600, .inl (fun _ => 0)))] H := hP
    have hD : va_D A [(hm, .inr (12, [.int 0, .ref (ma 1), .int 0, .int (-1), .ref (ma 4), .int 0, .int 0, .int 0, .long 0, .int 0, .int 0, .int 0, .int 0, .long 0, .int 0, .int 0, .int 0, .ref (ma 17), .ref (ma 18), .ref (ma 19), .ref (ma 20), .ref (ma 21), .ref (ma 22), .ref (ma 23), .ref (ma 24), .ref (ma 25), .ref (ma 26), .ref (ma 27), .ref (ma 28), .ref (ma 29), .ref (ma 30), .ref (ma 31), .ref (ma 32), .ref (ma 33), .ref (ma 34), .ref (ma 35), .ref (ma 36), .ref (ma 37), .ref (ma 38), .ref (ma 39), .ref (ma 40), .ref (ma 41), .ref (ma 42), .ref (ma 43), .ref (ma 44), .ref (ma 45), .ref (ma 46), .ref (ma 47), .ref (ma 48), .int 0, .int 0, .int 0, .int 0, .int 0, .int 0, .int 0, .int 0, .int 0, .int 0, .ref (ma 59), .ref (ma 60), .int 0, .int 0, .int 0, .int 0, .int 0, .int 0, .ref (ma 67), .ref (ma 68), .ref (ma 69), .int 0, .int (-1), .int 0, .ref (ma 73)])), ((ma 1), .inl (cy 0, 1600, .inl (fun _ => 0)))] := hD
    refine lv_iload_n hx hb dX12_feed_5 rfl (lv_at hl 2 rfl) ?_
    refine lv_iconst (v := 1) hx hb dX12_feed_6 (by decide) ?_
    refine lv_icmp_lt (tgt := 16) hx hb dX12_feed_7 (by decide) (fun c9 => absurd c9 (fd_b1 h9)) (fun _ => ?_)
    refine lv_iload_n hx hb dX12_feed_10 rfl (lv_at hl 2 rfl) ?_
    refine lv_bipush (v := 8) hx hb dX12_feed_11 (by decide) ?_
    refine lv_icmp_le (tgt := 19) hx hb dX12_feed_13 (by decide) (fun c9 => absurd c9 (Int32.not_le.mpr (fd_b8 h9))) (fun _ => ?_)
    refine lv_bipush (v := (-2)) hx hb dX12_feed_16 (by decide) ?_
    have hP9 := hP.sub (ws' := []) [] rfl
    have hD9 := hD.sub (ws' := []) [] (by decide) rfl
    refine W.widen (k := 0) (n := 0) (Nat.le_of_ble_eq_true rfl) (Nat.le_of_ble_eq_true rfl) ?_
    exact W.iret (v := (-2)) hx hb hr (fun t ht hW => ⟨⟨(-2), (), rfl, (fd_bv h9).symm, by rw [ht]; exact hP9, hD9⟩, hS.F ht⟩) hS.2.2 dX12_feed_18
  · rcases (show j9 = 0 ∨ j9 = 1 ∨ j9 = 2 ∨ j9 = 3 ∨ j9 = 4 ∨ j9 = 5 ∨ j9 = 6 ∨ j9 = 7 ∨ j9 = 8 by omega) with rfl | rfl | rfl | rfl | rfl | rfl | rfl | rfl | rfl
    · refine lv_aload_n hx hb dX12_feed_0 rfl (lv_at hl 0 rfl) ?_
      refine lv_iconst (v := 0) hx hb dX12_feed_1 (by decide) ?_
      refine va_put (D := D) (ci := 12) (v := .int 0) (ty := .int) (C := RX12) (T := TX12) (N := 74) hx hb hT i_TX12 tyX12 tyX12_ok nmX12 hown hK hP hD hS 0 rfl rfl 0 (by decide) (hT _ t_1715) (fun _ h9 => h9) rfl (by decide +kernel) rfl rfl (Nat.le_of_ble_eq_true rfl) dX12_feed_2 (fun H locs hP hD hS => ?_)
      have hP : va_P D vwCl [(hm, .inr (12, [.int 0, .ref (ma 1), .int 0, .int (-1), .ref (ma 4), .int 0, .int 0, .int 0, .long 0, .int 0, .int 0, .int 0, .int 0, .long 0, .int 0, .int 0, .int 0, .ref (ma 17), .ref (ma 18), .ref (ma 19), .ref (ma 20), .ref (ma 21), .ref (ma 22), .ref (ma 23), .ref (ma 24), .ref (ma 25), .ref (ma 26), .ref (ma 27), .ref (ma 28), .ref (ma 29), .ref (ma 30), .ref (ma 31), .ref (ma 32), .ref (ma 33), .ref (ma 34), .ref (ma 35), .ref (ma 36), .ref (ma 37), .ref (ma 38), .ref (ma 39), .ref (ma 40), .ref (ma 41), .ref (ma 42), .ref (ma 43), .ref (ma 44), .ref (ma 45), .ref (ma 46), .ref (ma 47), .ref (ma 48), .int 0, .int 0, .int 0, .int 0, .int 0, .int 0, .int 0, .int 0, .int 0, .int 0, .ref (ma 59), .ref (ma 60), .int 0, .int 0, .int 0, .int 0, .int 0, .int 0, .ref (ma 67), .ref (ma 68), .ref (ma 69), .int 0, .int (-1), .int 0, .ref (ma 73)])), ((ma 1), .inl (cy 0, 1600, .inl (fun _ => 0)))] H := hP
      have hD : va_D A [(hm, .inr (12, [.int 0, .ref (ma 1), .int 0, .int (-1), .ref (ma 4), .int 0, .int 0, .int 0, .long 0, .int 0, .int 0, .int 0, .int 0, .long 0, .int 0, .int 0, .int 0, .ref (ma 17), .ref (ma 18), .ref (ma 19), .ref (ma 20), .ref (ma 21), .ref (ma 22), .ref (ma 23), .ref (ma 24), .ref (ma 25), .ref (ma 26), .ref (ma 27), .ref (ma 28), .ref (ma 29), .ref (ma 30), .ref (ma 31), .ref (ma 32), .ref (ma 33), .ref (ma 34), .ref (ma 35), .ref (ma 36), .ref (ma 37), .ref (ma 38), .ref (ma 39), .ref (ma 40), .ref (ma 41), .ref (ma 42), .ref (ma 43), .ref (ma 44), .ref (ma 45), .ref (ma 46), .ref (ma 47), .ref (ma 48), .int 0, .int 0, .int 0, .int 0, .int 0, .int 0, .int 0, .int 0, .int 0, .int 0, .ref (ma 59), .ref (ma 60), .int 0, .int 0, .int 0, .int 0, .int 0, .int 0, .ref (ma 67), .ref (ma 68), .ref (ma 69), .int 0, .int (-1), .int 0, .ref (ma 73)])), ((ma 1), .inl (cy 0, 1600, .inl (fun _ => 0)))] := hD
      refine lv_iload_n hx hb dX12_feed_5 rfl (lv_at hl 2 rfl) ?_
      refine lv_iconst (v := 1) hx hb dX12_feed_6 (by decide) ?_
      refine lv_icmp_lt (tgt := 16) hx hb dX12_feed_7 (by decide) (fun _ => ?_) (fun c9 => absurd (by decide) c9)
      refine lv_bipush (v := (-2)) hx hb dX12_feed_16 (by decide) ?_
      have hP9 := hP.sub (ws' := []) [] rfl
      have hD9 := hD.sub (ws' := []) [] (by decide) rfl
      refine W.widen (k := 0) (n := 0) (Nat.le_of_ble_eq_true rfl) (Nat.le_of_ble_eq_true rfl) ?_
      exact W.iret (v := (-2)) hx hb hr (fun t ht hW => ⟨⟨(-2), (), rfl, (by decide), by rw [ht]; exact hP9, hD9⟩, hS.F ht⟩) hS.2.2 dX12_feed_18
    · refine lv_aload_n hx hb dX12_feed_0 rfl (lv_at hl 0 rfl) ?_
      refine lv_iconst (v := 0) hx hb dX12_feed_1 (by decide) ?_
      refine va_put (D := D) (ci := 12) (v := .int 0) (ty := .int) (C := RX12) (T := TX12) (N := 74) hx hb hT i_TX12 tyX12 tyX12_ok nmX12 hown hK hP hD hS 0 rfl rfl 0 (by decide) (hT _ t_1715) (fun _ h9 => h9) rfl (by decide +kernel) rfl rfl (Nat.le_of_ble_eq_true rfl) dX12_feed_2 (fun H locs hP hD hS => ?_)
      have hP : va_P D vwCl [(hm, .inr (12, [.int 0, .ref (ma 1), .int 0, .int (-1), .ref (ma 4), .int 0, .int 0, .int 0, .long 0, .int 0, .int 0, .int 0, .int 0, .long 0, .int 0, .int 0, .int 0, .ref (ma 17), .ref (ma 18), .ref (ma 19), .ref (ma 20), .ref (ma 21), .ref (ma 22), .ref (ma 23), .ref (ma 24), .ref (ma 25), .ref (ma 26), .ref (ma 27), .ref (ma 28), .ref (ma 29), .ref (ma 30), .ref (ma 31), .ref (ma 32), .ref (ma 33), .ref (ma 34), .ref (ma 35), .ref (ma 36), .ref (ma 37), .ref (ma 38), .ref (ma 39), .ref (ma 40), .ref (ma 41), .ref (ma 42), .ref (ma 43), .ref (ma 44), .ref (ma 45), .ref (ma 46), .ref (ma 47), .ref (ma 48), .int 0, .int 0, .int 0, .int 0, .int 0, .int 0, .int 0, .int 0, .int 0, .int 0, .ref (ma 59), .ref (ma 60), .int 0, .int 0, .int 0, .int 0, .int 0, .int 0, .ref (ma 67), .ref (ma 68), .ref (ma 69), .int 0, .int (-1), .int 0, .ref (ma 73)])), ((ma 1), .inl (cy 0, 1600, .inl (fun _ => 0)))] H := hP
      have hD : va_D A [(hm, .inr (12, [.int 0, .ref (ma 1), .int 0, .int (-1), .ref (ma 4), .int 0, .int 0, .int 0, .long 0, .int 0, .int 0, .int 0, .int 0, .long 0, .int 0, .int 0, .int 0, .ref (ma 17), .ref (ma 18), .ref (ma 19), .ref (ma 20), .ref (ma 21), .ref (ma 22), .ref (ma 23), .ref (ma 24), .ref (ma 25), .ref (ma 26), .ref (ma 27), .ref (ma 28), .ref (ma 29), .ref (ma 30), .ref (ma 31), .ref (ma 32), .ref (ma 33), .ref (ma 34), .ref (ma 35), .ref (ma 36), .ref (ma 37), .ref (ma 38), .ref (ma 39), .ref (ma 40), .ref (ma 41), .ref (ma 42), .ref (ma 43), .ref (ma 44), .ref (ma 45), .ref (ma 46), .ref (ma 47), .ref (ma 48), .int 0, .int 0, .int 0, .int 0, .int 0, .int 0, .int 0, .int 0, .int 0, .int 0, .ref (ma 59), .ref (ma 60), .int 0, .int 0, .int 0, .int 0, .int 0, .int 0, .ref (ma 67), .ref (ma 68), .ref (ma 69), .int 0, .int (-1), .int 0, .ref (ma 73)])), ((ma 1), .inl (cy 0, 1600, .inl (fun _ => 0)))] := hD
      refine lv_iload_n hx hb dX12_feed_5 rfl (lv_at hl 2 rfl) ?_
      refine lv_iconst (v := 1) hx hb dX12_feed_6 (by decide) ?_
      refine lv_icmp_lt (tgt := 16) hx hb dX12_feed_7 (by decide) (fun c9 => absurd c9 (by decide)) (fun _ => ?_)
      refine lv_iload_n hx hb dX12_feed_10 rfl (lv_at hl 2 rfl) ?_
      refine lv_bipush (v := 8) hx hb dX12_feed_11 (by decide) ?_
      refine lv_icmp_le (tgt := 19) hx hb dX12_feed_13 (by decide) (fun _ => ?_) (fun c9 => absurd (by decide) c9)
      refine lv_aload_n hx hb dX12_feed_19 rfl (lv_at hl 0 rfl) ?_
      refine va_get (D := D) (ci := 12) (v := .int 0) (C := RX12) (T := TX12) (N := 74) hx hb hT i_TX12 hown hK hP 0 rfl rfl 2 (by decide) (hT _ t_1717) (fun _ h9 => h9) rfl dX12_feed_20 ?_
      refine lv_iload_n hx hb dX12_feed_23 rfl (lv_at hl 2 rfl) ?_
      refine lv_iadd hx hb dX12_feed_24 ?_
      refine lv_topi (fun z1 e2 => ?_)
      obtain rfl : z1 = 1 := e2.trans (by first | decide | rfl)
      refine lv_sipush (v := 1600) hx hb dX12_feed_25 (by decide) ?_
      refine lv_icmp_le (tgt := 34) hx hb dX12_feed_28 (by decide) (fun _ => ?_) (fun c9 => absurd (by decide) c9)
      refine lv_iload_n hx hb dX12_feed_34 rfl (lv_at hl 2 rfl) ?_
      refine lv_iconst (v := 1) hx hb dX12_feed_35 (by decide) ?_
      refine lv_isub hx hb dX12_feed_36 ?_
      refine lv_topi (fun z3 e4 => ?_)
      obtain rfl : z3 = 0 := e4.trans (by first | decide | rfl)
      refine lv_istore (lv' := [(4, .int 0), (0, .ref hm), (1, .long p0), (3, .int (nI 1))]) hx hb dX12_feed_37 hl (by decide) rfl (fun ls hl => ?_)
      refine lv_iload hx hb dX12_feed_39 (lv_at hl 0 rfl) ?_
      refine lv_if_lt (tgt := 78) hx hb dX12_feed_41 (by decide) (fun c9 => absurd c9 (by decide)) (fun _ => ?_)
      refine lv_aload_n hx hb dX12_feed_44 rfl (lv_at hl 1 rfl) ?_
      refine va_get (D := D) (ci := 12) (v := .ref (ma 1)) (C := RX12) (T := TX12) (N := 74) hx hb hT i_TX12 hown hK hP 0 rfl rfl 1 (by decide) (hT _ t_1716) (fun _ h9 => h9) rfl dX12_feed_45 ?_
      refine lv_aload_n hx hb dX12_feed_48 rfl (lv_at hl 1 rfl) ?_
      refine va_get (D := D) (ci := 12) (v := .int 0) (C := RX12) (T := TX12) (N := 74) hx hb hT i_TX12 hown hK hP 0 rfl rfl 2 (by decide) (hT _ t_1717) (fun _ h9 => h9) rfl dX12_feed_49 ?_
      refine lv_lload_n hx hb dX12_feed_52 rfl (lv_at hl 2 rfl) ?_
      refine lv_bipush (v := 8) hx hb dX12_feed_53 (by decide) ?_
      refine lv_iload hx hb dX12_feed_55 (lv_at hl 0 rfl) ?_
      refine lv_imul hx hb dX12_feed_57 ?_
      refine lv_topi (fun z5 e6 => ?_)
      obtain rfl : z5 = 0 := e6.trans (by first | decide | rfl)
      refine lv_lshr hx hb dX12_feed_58 rfl ?_
      refine lv_topl (fun z7 e8 => ?_)
      refine lv_l2i hx hb dX12_feed_59 rfl ?_
      refine lv_topi (fun z9 e10 => ?_)
      refine lv_i2b hx hb dX12_feed_60 rfl ?_
      refine lv_topi (fun z11 e12 => ?_)
      refine va_bast hx hb hK hP hD hS 1 0 rfl rfl (vp_in_iff.mpr (by decide)) dX12_feed_61 (fun H locs hP hD hS => ?_)
      have hP : va_P D vwCl [(hm, .inr (12, [.int 0, .ref (ma 1), .int 0, .int (-1), .ref (ma 4), .int 0, .int 0, .int 0, .long 0, .int 0, .int 0, .int 0, .int 0, .long 0, .int 0, .int 0, .int 0, .ref (ma 17), .ref (ma 18), .ref (ma 19), .ref (ma 20), .ref (ma 21), .ref (ma 22), .ref (ma 23), .ref (ma 24), .ref (ma 25), .ref (ma 26), .ref (ma 27), .ref (ma 28), .ref (ma 29), .ref (ma 30), .ref (ma 31), .ref (ma 32), .ref (ma 33), .ref (ma 34), .ref (ma 35), .ref (ma 36), .ref (ma 37), .ref (ma 38), .ref (ma 39), .ref (ma 40), .ref (ma 41), .ref (ma 42), .ref (ma 43), .ref (ma 44), .ref (ma 45), .ref (ma 46), .ref (ma 47), .ref (ma 48), .int 0, .int 0, .int 0, .int 0, .int 0, .int 0, .int 0, .int 0, .int 0, .int 0, .ref (ma 59), .ref (ma 60), .int 0, .int 0, .int 0, .int 0, .int 0, .int 0, .ref (ma 67), .ref (ma 68), .ref (ma 69), .int 0, .int (-1), .int 0, .ref (ma 73)])), ((ma 1), .inl (cy 0, 1600, .inl (upd (fun _ => 0) (0 : Int32).toNatClampNeg (vp_nar .byte z11))))] H := hP
      have hD : va_D A [(hm, .inr (12, [.int 0, .ref (ma 1), .int 0, .int (-1), .ref (ma 4), .int 0, .int 0, .int 0, .long 0, .int 0, .int 0, .int 0, .int 0, .long 0, .int 0, .int 0, .int 0, .ref (ma 17), .ref (ma 18), .ref (ma 19), .ref (ma 20), .ref (ma 21), .ref (ma 22), .ref (ma 23), .ref (ma 24), .ref (ma 25), .ref (ma 26), .ref (ma 27), .ref (ma 28), .ref (ma 29), .ref (ma 30), .ref (ma 31), .ref (ma 32), .ref (ma 33), .ref (ma 34), .ref (ma 35), .ref (ma 36), .ref (ma 37), .ref (ma 38), .ref (ma 39), .ref (ma 40), .ref (ma 41), .ref (ma 42), .ref (ma 43), .ref (ma 44), .ref (ma 45), .ref (ma 46), .ref (ma 47), .ref (ma 48), .int 0, .int 0, .int 0, .int 0, .int 0, .int 0, .int 0, .int 0, .int 0, .int 0, .ref (ma 59), .ref (ma 60), .int 0, .int 0, .int 0, .int 0, .int 0, .int 0, .ref (ma 67), .ref (ma 68), .ref (ma 69), .int 0, .int (-1), .int 0, .ref (ma 73)])), ((ma 1), .inl (cy 0, 1600, .inl (upd (fun _ => 0) (0 : Int32).toNatClampNeg (vp_nar .byte z11))))] := hD
      generalize hff13 : (upd (fun _ => 0) (0 : Int32).toNatClampNeg (vp_nar .byte z11)) = f13 at hP hD
      refine lv_aload_n hx hb dX12_feed_62 rfl (lv_at hl 1 rfl) ?_
      refine lv_dup hx hb dX12_feed_63 rfl ?_
      refine va_get (D := D) (ci := 12) (v := .int 0) (C := RX12) (T := TX12) (N := 74) hx hb hT i_TX12 hown hK hP 0 rfl rfl 2 (by decide) (hT _ t_1717) (fun _ h9 => h9) rfl dX12_feed_64 ?_
      refine lv_iconst (v := 1) hx hb dX12_feed_67 (by decide) ?_
      refine lv_iadd hx hb dX12_feed_68 ?_
      refine lv_topi (fun z14 e15 => ?_)
      obtain rfl : z14 = 1 := e15.trans (by first | decide | rfl)
      refine va_put (D := D) (ci := 12) (v := .int 1) (ty := .int) (C := RX12) (T := TX12) (N := 74) hx hb hT i_TX12 tyX12 tyX12_ok nmX12 hown hK hP hD hS 0 rfl rfl 2 (by decide) (hT _ t_1717) (fun _ h9 => h9) rfl (by decide +kernel) rfl rfl (Nat.le_of_ble_eq_true rfl) dX12_feed_69 (fun H locs hP hD hS => ?_)
      have hP : va_P D vwCl [(hm, .inr (12, [.int 0, .ref (ma 1), .int 1, .int (-1), .ref (ma 4), .int 0, .int 0, .int 0, .long 0, .int 0, .int 0, .int 0, .int 0, .long 0, .int 0, .int 0, .int 0, .ref (ma 17), .ref (ma 18), .ref (ma 19), .ref (ma 20), .ref (ma 21), .ref (ma 22), .ref (ma 23), .ref (ma 24), .ref (ma 25), .ref (ma 26), .ref (ma 27), .ref (ma 28), .ref (ma 29), .ref (ma 30), .ref (ma 31), .ref (ma 32), .ref (ma 33), .ref (ma 34), .ref (ma 35), .ref (ma 36), .ref (ma 37), .ref (ma 38), .ref (ma 39), .ref (ma 40), .ref (ma 41), .ref (ma 42), .ref (ma 43), .ref (ma 44), .ref (ma 45), .ref (ma 46), .ref (ma 47), .ref (ma 48), .int 0, .int 0, .int 0, .int 0, .int 0, .int 0, .int 0, .int 0, .int 0, .int 0, .ref (ma 59), .ref (ma 60), .int 0, .int 0, .int 0, .int 0, .int 0, .int 0, .ref (ma 67), .ref (ma 68), .ref (ma 69), .int 0, .int (-1), .int 0, .ref (ma 73)])), ((ma 1), .inl (cy 0, 1600, .inl f13))] H := hP
      have hD : va_D A [(hm, .inr (12, [.int 0, .ref (ma 1), .int 1, .int (-1), .ref (ma 4), .int 0, .int 0, .int 0, .long 0, .int 0, .int 0, .int 0, .int 0, .long 0, .int 0, .int 0, .int 0, .ref (ma 17), .ref (ma 18), .ref (ma 19), .ref (ma 20), .ref (ma 21), .ref (ma 22), .ref (ma 23), .ref (ma 24), .ref (ma 25), .ref (ma 26), .ref (ma 27), .ref (ma 28), .ref (ma 29), .ref (ma 30), .ref (ma 31), .ref (ma 32), .ref (ma 33), .ref (ma 34), .ref (ma 35), .ref (ma 36), .ref (ma 37), .ref (ma 38), .ref (ma 39), .ref (ma 40), .ref (ma 41), .ref (ma 42), .ref (ma 43), .ref (ma 44), .ref (ma 45), .ref (ma 46), .ref (ma 47), .ref (ma 48), .int 0, .int 0, .int 0, .int 0, .int 0, .int 0, .int 0, .int 0, .int 0, .int 0, .ref (ma 59), .ref (ma 60), .int 0, .int 0, .int 0, .int 0, .int 0, .int 0, .ref (ma 67), .ref (ma 68), .ref (ma 69), .int 0, .int (-1), .int 0, .ref (ma 73)])), ((ma 1), .inl (cy 0, 1600, .inl f13))] := hD
      refine lv_iinc (v := (-1)) (lv' := [(4, .int (-1)), (0, .ref hm), (1, .long p0), (3, .int (nI 1))]) hx hb dX12_feed_72 hl (k := 0) rfl (by decide) (by decide) rfl (fun ls hl => ?_)
      refine lv_goto (tgt := 39) hx hb dX12_feed_75 (by decide) ?_
      refine lv_iload hx hb dX12_feed_39 (lv_at hl 0 rfl) ?_
      refine lv_if_lt (tgt := 78) hx hb dX12_feed_41 (by decide) (fun _ => ?_) (fun c9 => absurd (by decide) c9)
      refine lv_aload_n hx hb dX12_feed_78 rfl (lv_at hl 1 rfl) ?_
      refine va_get (D := D) (ci := 12) (v := .int 1) (C := RX12) (T := TX12) (N := 74) hx hb hT i_TX12 hown hK hP 0 rfl rfl 2 (by decide) (hT _ t_1717) (fun _ h9 => h9) rfl dX12_feed_79 ?_
      have hP9 := hP.sub (ws' := []) [] rfl
      have hD9 := hD.sub (ws' := []) [] (by decide) rfl
      refine W.widen (k := 0) (n := 0) (Nat.le_of_ble_eq_true rfl) (Nat.le_of_ble_eq_true rfl) ?_
      exact W.iret (v := 1) hx hb hr (fun t ht hW => ⟨⟨1, (), rfl, (by decide), by rw [ht]; exact hP9, hD9⟩, hS.F ht⟩) hS.2.2 dX12_feed_82
    · refine lv_aload_n hx hb dX12_feed_0 rfl (lv_at hl 0 rfl) ?_
      refine lv_iconst (v := 0) hx hb dX12_feed_1 (by decide) ?_
      refine va_put (D := D) (ci := 12) (v := .int 0) (ty := .int) (C := RX12) (T := TX12) (N := 74) hx hb hT i_TX12 tyX12 tyX12_ok nmX12 hown hK hP hD hS 0 rfl rfl 0 (by decide) (hT _ t_1715) (fun _ h9 => h9) rfl (by decide +kernel) rfl rfl (Nat.le_of_ble_eq_true rfl) dX12_feed_2 (fun H locs hP hD hS => ?_)
      have hP : va_P D vwCl [(hm, .inr (12, [.int 0, .ref (ma 1), .int 0, .int (-1), .ref (ma 4), .int 0, .int 0, .int 0, .long 0, .int 0, .int 0, .int 0, .int 0, .long 0, .int 0, .int 0, .int 0, .ref (ma 17), .ref (ma 18), .ref (ma 19), .ref (ma 20), .ref (ma 21), .ref (ma 22), .ref (ma 23), .ref (ma 24), .ref (ma 25), .ref (ma 26), .ref (ma 27), .ref (ma 28), .ref (ma 29), .ref (ma 30), .ref (ma 31), .ref (ma 32), .ref (ma 33), .ref (ma 34), .ref (ma 35), .ref (ma 36), .ref (ma 37), .ref (ma 38), .ref (ma 39), .ref (ma 40), .ref (ma 41), .ref (ma 42), .ref (ma 43), .ref (ma 44), .ref (ma 45), .ref (ma 46), .ref (ma 47), .ref (ma 48), .int 0, .int 0, .int 0, .int 0, .int 0, .int 0, .int 0, .int 0, .int 0, .int 0, .ref (ma 59), .ref (ma 60), .int 0, .int 0, .int 0, .int 0, .int 0, .int 0, .ref (ma 67), .ref (ma 68), .ref (ma 69), .int 0, .int (-1), .int 0, .ref (ma 73)])), ((ma 1), .inl (cy 0, 1600, .inl (fun _ => 0)))] H := hP
      have hD : va_D A [(hm, .inr (12, [.int 0, .ref (ma 1), .int 0, .int (-1), .ref (ma 4), .int 0, .int 0, .int 0, .long 0, .int 0, .int 0, .int 0, .int 0, .long 0, .int 0, .int 0, .int 0, .ref (ma 17), .ref (ma 18), .ref (ma 19), .ref (ma 20), .ref (ma 21), .ref (ma 22), .ref (ma 23), .ref (ma 24), .ref (ma 25), .ref (ma 26), .ref (ma 27), .ref (ma 28), .ref (ma 29), .ref (ma 30), .ref (ma 31), .ref (ma 32), .ref (ma 33), .ref (ma 34), .ref (ma 35), .ref (ma 36), .ref (ma 37), .ref (ma 38), .ref (ma 39), .ref (ma 40), .ref (ma 41), .ref (ma 42), .ref (ma 43), .ref (ma 44), .ref (ma 45), .ref (ma 46), .ref (ma 47), .ref (ma 48), .int 0, .int 0, .int 0, .int 0, .int 0, .int 0, .int 0, .int 0, .int 0, .int 0, .ref (ma 59), .ref (ma 60), .int 0, .int 0, .int 0, .int 0, .int 0, .int 0, .ref (ma 67), .ref (ma 68), .ref (ma 69), .int 0, .int (-1), .int 0, .ref (ma 73)])), ((ma 1), .inl (cy 0, 1600, .inl (fun _ => 0)))] := hD
      refine lv_iload_n hx hb dX12_feed_5 rfl (lv_at hl 2 rfl) ?_
      refine lv_iconst (v := 1) hx hb dX12_feed_6 (by decide) ?_
      refine lv_icmp_lt (tgt := 16) hx hb dX12_feed_7 (by decide) (fun c9 => absurd c9 (by decide)) (fun _ => ?_)
      refine lv_iload_n hx hb dX12_feed_10 rfl (lv_at hl 2 rfl) ?_
      refine lv_bipush (v := 8) hx hb dX12_feed_11 (by decide) ?_
      refine lv_icmp_le (tgt := 19) hx hb dX12_feed_13 (by decide) (fun _ => ?_) (fun c9 => absurd (by decide) c9)
      refine lv_aload_n hx hb dX12_feed_19 rfl (lv_at hl 0 rfl) ?_
      refine va_get (D := D) (ci := 12) (v := .int 0) (C := RX12) (T := TX12) (N := 74) hx hb hT i_TX12 hown hK hP 0 rfl rfl 2 (by decide) (hT _ t_1717) (fun _ h9 => h9) rfl dX12_feed_20 ?_
      refine lv_iload_n hx hb dX12_feed_23 rfl (lv_at hl 2 rfl) ?_
      refine lv_iadd hx hb dX12_feed_24 ?_
      refine lv_topi (fun z16 e17 => ?_)
      obtain rfl : z16 = 2 := e17.trans (by first | decide | rfl)
      refine lv_sipush (v := 1600) hx hb dX12_feed_25 (by decide) ?_
      refine lv_icmp_le (tgt := 34) hx hb dX12_feed_28 (by decide) (fun _ => ?_) (fun c9 => absurd (by decide) c9)
      refine lv_iload_n hx hb dX12_feed_34 rfl (lv_at hl 2 rfl) ?_
      refine lv_iconst (v := 1) hx hb dX12_feed_35 (by decide) ?_
      refine lv_isub hx hb dX12_feed_36 ?_
      refine lv_topi (fun z18 e19 => ?_)
      obtain rfl : z18 = 1 := e19.trans (by first | decide | rfl)
      refine lv_istore (lv' := [(4, .int 1), (0, .ref hm), (1, .long p0), (3, .int (nI 2))]) hx hb dX12_feed_37 hl (by decide) rfl (fun ls hl => ?_)
      refine lv_iload hx hb dX12_feed_39 (lv_at hl 0 rfl) ?_
      refine lv_if_lt (tgt := 78) hx hb dX12_feed_41 (by decide) (fun c9 => absurd c9 (by decide)) (fun _ => ?_)
      refine lv_aload_n hx hb dX12_feed_44 rfl (lv_at hl 1 rfl) ?_
      refine va_get (D := D) (ci := 12) (v := .ref (ma 1)) (C := RX12) (T := TX12) (N := 74) hx hb hT i_TX12 hown hK hP 0 rfl rfl 1 (by decide) (hT _ t_1716) (fun _ h9 => h9) rfl dX12_feed_45 ?_
      refine lv_aload_n hx hb dX12_feed_48 rfl (lv_at hl 1 rfl) ?_
      refine va_get (D := D) (ci := 12) (v := .int 0) (C := RX12) (T := TX12) (N := 74) hx hb hT i_TX12 hown hK hP 0 rfl rfl 2 (by decide) (hT _ t_1717) (fun _ h9 => h9) rfl dX12_feed_49 ?_
      refine lv_lload_n hx hb dX12_feed_52 rfl (lv_at hl 2 rfl) ?_
      refine lv_bipush (v := 8) hx hb dX12_feed_53 (by decide) ?_
      refine lv_iload hx hb dX12_feed_55 (lv_at hl 0 rfl) ?_
      refine lv_imul hx hb dX12_feed_57 ?_
      refine lv_topi (fun z20 e21 => ?_)
      obtain rfl : z20 = 8 := e21.trans (by first | decide | rfl)
      refine lv_lshr hx hb dX12_feed_58 rfl ?_
      refine lv_topl (fun z22 e23 => ?_)
      refine lv_l2i hx hb dX12_feed_59 rfl ?_
      refine lv_topi (fun z24 e25 => ?_)
      refine lv_i2b hx hb dX12_feed_60 rfl ?_
      refine lv_topi (fun z26 e27 => ?_)
      refine va_bast hx hb hK hP hD hS 1 0 rfl rfl (vp_in_iff.mpr (by decide)) dX12_feed_61 (fun H locs hP hD hS => ?_)
      have hP : va_P D vwCl [(hm, .inr (12, [.int 0, .ref (ma 1), .int 0, .int (-1), .ref (ma 4), .int 0, .int 0, .int 0, .long 0, .int 0, .int 0, .int 0, .int 0, .long 0, .int 0, .int 0, .int 0, .ref (ma 17), .ref (ma 18), .ref (ma 19), .ref (ma 20), .ref (ma 21), .ref (ma 22), .ref (ma 23), .ref (ma 24), .ref (ma 25), .ref (ma 26), .ref (ma 27), .ref (ma 28), .ref (ma 29), .ref (ma 30), .ref (ma 31), .ref (ma 32), .ref (ma 33), .ref (ma 34), .ref (ma 35), .ref (ma 36), .ref (ma 37), .ref (ma 38), .ref (ma 39), .ref (ma 40), .ref (ma 41), .ref (ma 42), .ref (ma 43), .ref (ma 44), .ref (ma 45), .ref (ma 46), .ref (ma 47), .ref (ma 48), .int 0, .int 0, .int 0, .int 0, .int 0, .int 0, .int 0, .int 0, .int 0, .int 0, .ref (ma 59), .ref (ma 60), .int 0, .int 0, .int 0, .int 0, .int 0, .int 0, .ref (ma 67), .ref (ma 68), .ref (ma 69), .int 0, .int (-1), .int 0, .ref (ma 73)])), ((ma 1), .inl (cy 0, 1600, .inl (upd (fun _ => 0) (0 : Int32).toNatClampNeg (vp_nar .byte z26))))] H := hP
      have hD : va_D A [(hm, .inr (12, [.int 0, .ref (ma 1), .int 0, .int (-1), .ref (ma 4), .int 0, .int 0, .int 0, .long 0, .int 0, .int 0, .int 0, .int 0, .long 0, .int 0, .int 0, .int 0, .ref (ma 17), .ref (ma 18), .ref (ma 19), .ref (ma 20), .ref (ma 21), .ref (ma 22), .ref (ma 23), .ref (ma 24), .ref (ma 25), .ref (ma 26), .ref (ma 27), .ref (ma 28), .ref (ma 29), .ref (ma 30), .ref (ma 31), .ref (ma 32), .ref (ma 33), .ref (ma 34), .ref (ma 35), .ref (ma 36), .ref (ma 37), .ref (ma 38), .ref (ma 39), .ref (ma 40), .ref (ma 41), .ref (ma 42), .ref (ma 43), .ref (ma 44), .ref (ma 45), .ref (ma 46), .ref (ma 47), .ref (ma 48), .int 0, .int 0, .int 0, .int 0, .int 0, .int 0, .int 0, .int 0, .int 0, .int 0, .ref (ma 59), .ref (ma 60), .int 0, .int 0, .int 0, .int 0, .int 0, .int 0, .ref (ma 67), .ref (ma 68), .ref (ma 69), .int 0, .int (-1), .int 0, .ref (ma 73)])), ((ma 1), .inl (cy 0, 1600, .inl (upd (fun _ => 0) (0 : Int32).toNatClampNeg (vp_nar .byte z26))))] := hD
      generalize hff28 : (upd (fun _ => 0) (0 : Int32).toNatClampNeg (vp_nar .byte z26)) = f28 at hP hD
      refine lv_aload_n hx hb dX12_feed_62 rfl (lv_at hl 1 rfl) ?_
      refine lv_dup hx hb dX12_feed_63 rfl ?_
      refine va_get (D := D) (ci := 12) (v := .int 0) (C := RX12) (T := TX12) (N := 74) hx hb hT i_TX12 hown hK hP 0 rfl rfl 2 (by decide) (hT _ t_1717) (fun _ h9 => h9) rfl dX12_feed_64 ?_
      refine lv_iconst (v := 1) hx hb dX12_feed_67 (by decide) ?_
      refine lv_iadd hx hb dX12_feed_68 ?_
      refine lv_topi (fun z29 e30 => ?_)
      obtain rfl : z29 = 1 := e30.trans (by first | decide | rfl)
      refine va_put (D := D) (ci := 12) (v := .int 1) (ty := .int) (C := RX12) (T := TX12) (N := 74) hx hb hT i_TX12 tyX12 tyX12_ok nmX12 hown hK hP hD hS 0 rfl rfl 2 (by decide) (hT _ t_1717) (fun _ h9 => h9) rfl (by decide +kernel) rfl rfl (Nat.le_of_ble_eq_true rfl) dX12_feed_69 (fun H locs hP hD hS => ?_)
      have hP : va_P D vwCl [(hm, .inr (12, [.int 0, .ref (ma 1), .int 1, .int (-1), .ref (ma 4), .int 0, .int 0, .int 0, .long 0, .int 0, .int 0, .int 0, .int 0, .long 0, .int 0, .int 0, .int 0, .ref (ma 17), .ref (ma 18), .ref (ma 19), .ref (ma 20), .ref (ma 21), .ref (ma 22), .ref (ma 23), .ref (ma 24), .ref (ma 25), .ref (ma 26), .ref (ma 27), .ref (ma 28), .ref (ma 29), .ref (ma 30), .ref (ma 31), .ref (ma 32), .ref (ma 33), .ref (ma 34), .ref (ma 35), .ref (ma 36), .ref (ma 37), .ref (ma 38), .ref (ma 39), .ref (ma 40), .ref (ma 41), .ref (ma 42), .ref (ma 43), .ref (ma 44), .ref (ma 45), .ref (ma 46), .ref (ma 47), .ref (ma 48), .int 0, .int 0, .int 0, .int 0, .int 0, .int 0, .int 0, .int 0, .int 0, .int 0, .ref (ma 59), .ref (ma 60), .int 0, .int 0, .int 0, .int 0, .int 0, .int 0, .ref (ma 67), .ref (ma 68), .ref (ma 69), .int 0, .int (-1), .int 0, .ref (ma 73)])), ((ma 1), .inl (cy 0, 1600, .inl f28))] H := hP
      have hD : va_D A [(hm, .inr (12, [.int 0, .ref (ma 1), .int 1, .int (-1), .ref (ma 4), .int 0, .int 0, .int 0, .long 0, .int 0, .int 0, .int 0, .int 0, .long 0, .int 0, .int 0, .int 0, .ref (ma 17), .ref (ma 18), .ref (ma 19), .ref (ma 20), .ref (ma 21), .ref (ma 22), .ref (ma 23), .ref (ma 24), .ref (ma 25), .ref (ma 26), .ref (ma 27), .ref (ma 28), .ref (ma 29), .ref (ma 30), .ref (ma 31), .ref (ma 32), .ref (ma 33), .ref (ma 34), .ref (ma 35), .ref (ma 36), .ref (ma 37), .ref (ma 38), .ref (ma 39), .ref (ma 40), .ref (ma 41), .ref (ma 42), .ref (ma 43), .ref (ma 44), .ref (ma 45), .ref (ma 46), .ref (ma 47), .ref (ma 48), .int 0, .int 0, .int 0, .int 0, .int 0, .int 0, .int 0, .int 0, .int 0, .int 0, .ref (ma 59), .ref (ma 60), .int 0, .int 0, .int 0, .int 0, .int 0, .int 0, .ref (ma 67), .ref (ma 68), .ref (ma 69), .int 0, .int (-1), .int 0, .ref (ma 73)])), ((ma 1), .inl (cy 0, 1600, .inl f28))] := hD
      refine lv_iinc (v := 0) (lv' := [(4, .int 0), (0, .ref hm), (1, .long p0), (3, .int (nI 2))]) hx hb dX12_feed_72 hl (k := 0) rfl (by decide) (by decide) rfl (fun ls hl => ?_)
      refine lv_goto (tgt := 39) hx hb dX12_feed_75 (by decide) ?_
      refine lv_iload hx hb dX12_feed_39 (lv_at hl 0 rfl) ?_
      refine lv_if_lt (tgt := 78) hx hb dX12_feed_41 (by decide) (fun c9 => absurd c9 (by decide)) (fun _ => ?_)
      refine lv_aload_n hx hb dX12_feed_44 rfl (lv_at hl 1 rfl) ?_
      refine va_get (D := D) (ci := 12) (v := .ref (ma 1)) (C := RX12) (T := TX12) (N := 74) hx hb hT i_TX12 hown hK hP 0 rfl rfl 1 (by decide) (hT _ t_1716) (fun _ h9 => h9) rfl dX12_feed_45 ?_
      refine lv_aload_n hx hb dX12_feed_48 rfl (lv_at hl 1 rfl) ?_
      refine va_get (D := D) (ci := 12) (v := .int 1) (C := RX12) (T := TX12) (N := 74) hx hb hT i_TX12 hown hK hP 0 rfl rfl 2 (by decide) (hT _ t_1717) (fun _ h9 => h9) rfl dX12_feed_49 ?_
      refine lv_lload_n hx hb dX12_feed_52 rfl (lv_at hl 2 rfl) ?_
      refine lv_bipush (v := 8) hx hb dX12_feed_53 (by decide) ?_
      refine lv_iload hx hb dX12_feed_55 (lv_at hl 0 rfl) ?_
      refine lv_imul hx hb dX12_feed_57 ?_
      refine lv_topi (fun z31 e32 => ?_)
      obtain rfl : z31 = 0 := e32.trans (by first | decide | rfl)
      refine lv_lshr hx hb dX12_feed_58 rfl ?_
      refine lv_topl (fun z33 e34 => ?_)
      refine lv_l2i hx hb dX12_feed_59 rfl ?_
      refine lv_topi (fun z35 e36 => ?_)
      refine lv_i2b hx hb dX12_feed_60 rfl ?_
      refine lv_topi (fun z37 e38 => ?_)
      refine va_bast hx hb hK hP hD hS 1 0 rfl rfl (vp_in_iff.mpr (by decide)) dX12_feed_61 (fun H locs hP hD hS => ?_)
      have hP : va_P D vwCl [(hm, .inr (12, [.int 0, .ref (ma 1), .int 1, .int (-1), .ref (ma 4), .int 0, .int 0, .int 0, .long 0, .int 0, .int 0, .int 0, .int 0, .long 0, .int 0, .int 0, .int 0, .ref (ma 17), .ref (ma 18), .ref (ma 19), .ref (ma 20), .ref (ma 21), .ref (ma 22), .ref (ma 23), .ref (ma 24), .ref (ma 25), .ref (ma 26), .ref (ma 27), .ref (ma 28), .ref (ma 29), .ref (ma 30), .ref (ma 31), .ref (ma 32), .ref (ma 33), .ref (ma 34), .ref (ma 35), .ref (ma 36), .ref (ma 37), .ref (ma 38), .ref (ma 39), .ref (ma 40), .ref (ma 41), .ref (ma 42), .ref (ma 43), .ref (ma 44), .ref (ma 45), .ref (ma 46), .ref (ma 47), .ref (ma 48), .int 0, .int 0, .int 0, .int 0, .int 0, .int 0, .int 0, .int 0, .int 0, .int 0, .ref (ma 59), .ref (ma 60), .int 0, .int 0, .int 0, .int 0, .int 0, .int 0, .ref (ma 67), .ref (ma 68), .ref (ma 69), .int 0, .int (-1), .int 0, .ref (ma 73)])), ((ma 1), .inl (cy 0, 1600, .inl (upd f28 (1 : Int32).toNatClampNeg (vp_nar .byte z37))))] H := hP
      have hD : va_D A [(hm, .inr (12, [.int 0, .ref (ma 1), .int 1, .int (-1), .ref (ma 4), .int 0, .int 0, .int 0, .long 0, .int 0, .int 0, .int 0, .int 0, .long 0, .int 0, .int 0, .int 0, .ref (ma 17), .ref (ma 18), .ref (ma 19), .ref (ma 20), .ref (ma 21), .ref (ma 22), .ref (ma 23), .ref (ma 24), .ref (ma 25), .ref (ma 26), .ref (ma 27), .ref (ma 28), .ref (ma 29), .ref (ma 30), .ref (ma 31), .ref (ma 32), .ref (ma 33), .ref (ma 34), .ref (ma 35), .ref (ma 36), .ref (ma 37), .ref (ma 38), .ref (ma 39), .ref (ma 40), .ref (ma 41), .ref (ma 42), .ref (ma 43), .ref (ma 44), .ref (ma 45), .ref (ma 46), .ref (ma 47), .ref (ma 48), .int 0, .int 0, .int 0, .int 0, .int 0, .int 0, .int 0, .int 0, .int 0, .int 0, .ref (ma 59), .ref (ma 60), .int 0, .int 0, .int 0, .int 0, .int 0, .int 0, .ref (ma 67), .ref (ma 68), .ref (ma 69), .int 0, .int (-1), .int 0, .ref (ma 73)])), ((ma 1), .inl (cy 0, 1600, .inl (upd f28 (1 : Int32).toNatClampNeg (vp_nar .byte z37))))] := hD
      generalize hff39 : (upd f28 (1 : Int32).toNatClampNeg (vp_nar .byte z37)) = f39 at hP hD
      refine lv_aload_n hx hb dX12_feed_62 rfl (lv_at hl 1 rfl) ?_
      refine lv_dup hx hb dX12_feed_63 rfl ?_
      refine va_get (D := D) (ci := 12) (v := .int 1) (C := RX12) (T := TX12) (N := 74) hx hb hT i_TX12 hown hK hP 0 rfl rfl 2 (by decide) (hT _ t_1717) (fun _ h9 => h9) rfl dX12_feed_64 ?_
      refine lv_iconst (v := 1) hx hb dX12_feed_67 (by decide) ?_
      refine lv_iadd hx hb dX12_feed_68 ?_
      refine lv_topi (fun z40 e41 => ?_)
      obtain rfl : z40 = 2 := e41.trans (by first | decide | rfl)
      refine va_put (D := D) (ci := 12) (v := .int 2) (ty := .int) (C := RX12) (T := TX12) (N := 74) hx hb hT i_TX12 tyX12 tyX12_ok nmX12 hown hK hP hD hS 0 rfl rfl 2 (by decide) (hT _ t_1717) (fun _ h9 => h9) rfl (by decide +kernel) rfl rfl (Nat.le_of_ble_eq_true rfl) dX12_feed_69 (fun H locs hP hD hS => ?_)
      have hP : va_P D vwCl [(hm, .inr (12, [.int 0, .ref (ma 1), .int 2, .int (-1), .ref (ma 4), .int 0, .int 0, .int 0, .long 0, .int 0, .int 0, .int 0, .int 0, .long 0, .int 0, .int 0, .int 0, .ref (ma 17), .ref (ma 18), .ref (ma 19), .ref (ma 20), .ref (ma 21), .ref (ma 22), .ref (ma 23), .ref (ma 24), .ref (ma 25), .ref (ma 26), .ref (ma 27), .ref (ma 28), .ref (ma 29), .ref (ma 30), .ref (ma 31), .ref (ma 32), .ref (ma 33), .ref (ma 34), .ref (ma 35), .ref (ma 36), .ref (ma 37), .ref (ma 38), .ref (ma 39), .ref (ma 40), .ref (ma 41), .ref (ma 42), .ref (ma 43), .ref (ma 44), .ref (ma 45), .ref (ma 46), .ref (ma 47), .ref (ma 48), .int 0, .int 0, .int 0, .int 0, .int 0, .int 0, .int 0, .int 0, .int 0, .int 0, .ref (ma 59), .ref (ma 60), .int 0, .int 0, .int 0, .int 0, .int 0, .int 0, .ref (ma 67), .ref (ma 68), .ref (ma 69), .int 0, .int (-1), .int 0, .ref (ma 73)])), ((ma 1), .inl (cy 0, 1600, .inl f39))] H := hP
      have hD : va_D A [(hm, .inr (12, [.int 0, .ref (ma 1), .int 2, .int (-1), .ref (ma 4), .int 0, .int 0, .int 0, .long 0, .int 0, .int 0, .int 0, .int 0, .long 0, .int 0, .int 0, .int 0, .ref (ma 17), .ref (ma 18), .ref (ma 19), .ref (ma 20), .ref (ma 21), .ref (ma 22), .ref (ma 23), .ref (ma 24), .ref (ma 25), .ref (ma 26), .ref (ma 27), .ref (ma 28), .ref (ma 29), .ref (ma 30), .ref (ma 31), .ref (ma 32), .ref (ma 33), .ref (ma 34), .ref (ma 35), .ref (ma 36), .ref (ma 37), .ref (ma 38), .ref (ma 39), .ref (ma 40), .ref (ma 41), .ref (ma 42), .ref (ma 43), .ref (ma 44), .ref (ma 45), .ref (ma 46), .ref (ma 47), .ref (ma 48), .int 0, .int 0, .int 0, .int 0, .int 0, .int 0, .int 0, .int 0, .int 0, .int 0, .ref (ma 59), .ref (ma 60), .int 0, .int 0, .int 0, .int 0, .int 0, .int 0, .ref (ma 67), .ref (ma 68), .ref (ma 69), .int 0, .int (-1), .int 0, .ref (ma 73)])), ((ma 1), .inl (cy 0, 1600, .inl f39))] := hD
      refine lv_iinc (v := (-1)) (lv' := [(4, .int (-1)), (0, .ref hm), (1, .long p0), (3, .int (nI 2))]) hx hb dX12_feed_72 hl (k := 0) rfl (by decide) (by decide) rfl (fun ls hl => ?_)
      refine lv_goto (tgt := 39) hx hb dX12_feed_75 (by decide) ?_
      refine lv_iload hx hb dX12_feed_39 (lv_at hl 0 rfl) ?_
      refine lv_if_lt (tgt := 78) hx hb dX12_feed_41 (by decide) (fun _ => ?_) (fun c9 => absurd (by decide) c9)
      refine lv_aload_n hx hb dX12_feed_78 rfl (lv_at hl 1 rfl) ?_
      refine va_get (D := D) (ci := 12) (v := .int 2) (C := RX12) (T := TX12) (N := 74) hx hb hT i_TX12 hown hK hP 0 rfl rfl 2 (by decide) (hT _ t_1717) (fun _ h9 => h9) rfl dX12_feed_79 ?_
      have hP9 := hP.sub (ws' := []) [] rfl
      have hD9 := hD.sub (ws' := []) [] (by decide) rfl
      refine W.widen (k := 0) (n := 0) (Nat.le_of_ble_eq_true rfl) (Nat.le_of_ble_eq_true rfl) ?_
      exact W.iret (v := 2) hx hb hr (fun t ht hW => ⟨⟨2, (), rfl, (by decide), by rw [ht]; exact hP9, hD9⟩, hS.F ht⟩) hS.2.2 dX12_feed_82
    · refine lv_aload_n hx hb dX12_feed_0 rfl (lv_at hl 0 rfl) ?_
      refine lv_iconst (v := 0) hx hb dX12_feed_1 (by decide) ?_
      refine va_put (D := D) (ci := 12) (v := .int 0) (ty := .int) (C := RX12) (T := TX12) (N := 74) hx hb hT i_TX12 tyX12 tyX12_ok nmX12 hown hK hP hD hS 0 rfl rfl 0 (by decide) (hT _ t_1715) (fun _ h9 => h9) rfl (by decide +kernel) rfl rfl (Nat.le_of_ble_eq_true rfl) dX12_feed_2 (fun H locs hP hD hS => ?_)
      have hP : va_P D vwCl [(hm, .inr (12, [.int 0, .ref (ma 1), .int 0, .int (-1), .ref (ma 4), .int 0, .int 0, .int 0, .long 0, .int 0, .int 0, .int 0, .int 0, .long 0, .int 0, .int 0, .int 0, .ref (ma 17), .ref (ma 18), .ref (ma 19), .ref (ma 20), .ref (ma 21), .ref (ma 22), .ref (ma 23), .ref (ma 24), .ref (ma 25), .ref (ma 26), .ref (ma 27), .ref (ma 28), .ref (ma 29), .ref (ma 30), .ref (ma 31), .ref (ma 32), .ref (ma 33), .ref (ma 34), .ref (ma 35), .ref (ma 36), .ref (ma 37), .ref (ma 38), .ref (ma 39), .ref (ma 40), .ref (ma 41), .ref (ma 42), .ref (ma 43), .ref (ma 44), .ref (ma 45), .ref (ma 46), .ref (ma 47), .ref (ma 48), .int 0, .int 0, .int 0, .int 0, .int 0, .int 0, .int 0, .int 0, .int 0, .int 0, .ref (ma 59), .ref (ma 60), .int 0, .int 0, .int 0, .int 0, .int 0, .int 0, .ref (ma 67), .ref (ma 68), .ref (ma 69), .int 0, .int (-1), .int 0, .ref (ma 73)])), ((ma 1), .inl (cy 0, 1600, .inl (fun _ => 0)))] H := hP
      have hD : va_D A [(hm, .inr (12, [.int 0, .ref (ma 1), .int 0, .int (-1), .ref (ma 4), .int 0, .int 0, .int 0, .long 0, .int 0, .int 0, .int 0, .int 0, .long 0, .int 0, .int 0, .int 0, .ref (ma 17), .ref (ma 18), .ref (ma 19), .ref (ma 20), .ref (ma 21), .ref (ma 22), .ref (ma 23), .ref (ma 24), .ref (ma 25), .ref (ma 26), .ref (ma 27), .ref (ma 28), .ref (ma 29), .ref (ma 30), .ref (ma 31), .ref (ma 32), .ref (ma 33), .ref (ma 34), .ref (ma 35), .ref (ma 36), .ref (ma 37), .ref (ma 38), .ref (ma 39), .ref (ma 40), .ref (ma 41), .ref (ma 42), .ref (ma 43), .ref (ma 44), .ref (ma 45), .ref (ma 46), .ref (ma 47), .ref (ma 48), .int 0, .int 0, .int 0, .int 0, .int 0, .int 0, .int 0, .int 0, .int 0, .int 0, .ref (ma 59), .ref (ma 60), .int 0, .int 0, .int 0, .int 0, .int 0, .int 0, .ref (ma 67), .ref (ma 68), .ref (ma 69), .int 0, .int (-1), .int 0, .ref (ma 73)])), ((ma 1), .inl (cy 0, 1600, .inl (fun _ => 0)))] := hD
      refine lv_iload_n hx hb dX12_feed_5 rfl (lv_at hl 2 rfl) ?_
      refine lv_iconst (v := 1) hx hb dX12_feed_6 (by decide) ?_
      refine lv_icmp_lt (tgt := 16) hx hb dX12_feed_7 (by decide) (fun c9 => absurd c9 (by decide)) (fun _ => ?_)
      refine lv_iload_n hx hb dX12_feed_10 rfl (lv_at hl 2 rfl) ?_
      refine lv_bipush (v := 8) hx hb dX12_feed_11 (by decide) ?_
      refine lv_icmp_le (tgt := 19) hx hb dX12_feed_13 (by decide) (fun _ => ?_) (fun c9 => absurd (by decide) c9)
      refine lv_aload_n hx hb dX12_feed_19 rfl (lv_at hl 0 rfl) ?_
      refine va_get (D := D) (ci := 12) (v := .int 0) (C := RX12) (T := TX12) (N := 74) hx hb hT i_TX12 hown hK hP 0 rfl rfl 2 (by decide) (hT _ t_1717) (fun _ h9 => h9) rfl dX12_feed_20 ?_
      refine lv_iload_n hx hb dX12_feed_23 rfl (lv_at hl 2 rfl) ?_
      refine lv_iadd hx hb dX12_feed_24 ?_
      refine lv_topi (fun z42 e43 => ?_)
      obtain rfl : z42 = 3 := e43.trans (by first | decide | rfl)
      refine lv_sipush (v := 1600) hx hb dX12_feed_25 (by decide) ?_
      refine lv_icmp_le (tgt := 34) hx hb dX12_feed_28 (by decide) (fun _ => ?_) (fun c9 => absurd (by decide) c9)
      refine lv_iload_n hx hb dX12_feed_34 rfl (lv_at hl 2 rfl) ?_
      refine lv_iconst (v := 1) hx hb dX12_feed_35 (by decide) ?_
      refine lv_isub hx hb dX12_feed_36 ?_
      refine lv_topi (fun z44 e45 => ?_)
      obtain rfl : z44 = 2 := e45.trans (by first | decide | rfl)
      refine lv_istore (lv' := [(4, .int 2), (0, .ref hm), (1, .long p0), (3, .int (nI 3))]) hx hb dX12_feed_37 hl (by decide) rfl (fun ls hl => ?_)
      refine lv_iload hx hb dX12_feed_39 (lv_at hl 0 rfl) ?_
      refine lv_if_lt (tgt := 78) hx hb dX12_feed_41 (by decide) (fun c9 => absurd c9 (by decide)) (fun _ => ?_)
      refine lv_aload_n hx hb dX12_feed_44 rfl (lv_at hl 1 rfl) ?_
      refine va_get (D := D) (ci := 12) (v := .ref (ma 1)) (C := RX12) (T := TX12) (N := 74) hx hb hT i_TX12 hown hK hP 0 rfl rfl 1 (by decide) (hT _ t_1716) (fun _ h9 => h9) rfl dX12_feed_45 ?_
      refine lv_aload_n hx hb dX12_feed_48 rfl (lv_at hl 1 rfl) ?_
      refine va_get (D := D) (ci := 12) (v := .int 0) (C := RX12) (T := TX12) (N := 74) hx hb hT i_TX12 hown hK hP 0 rfl rfl 2 (by decide) (hT _ t_1717) (fun _ h9 => h9) rfl dX12_feed_49 ?_
      refine lv_lload_n hx hb dX12_feed_52 rfl (lv_at hl 2 rfl) ?_
      refine lv_bipush (v := 8) hx hb dX12_feed_53 (by decide) ?_
      refine lv_iload hx hb dX12_feed_55 (lv_at hl 0 rfl) ?_
      refine lv_imul hx hb dX12_feed_57 ?_
      refine lv_topi (fun z46 e47 => ?_)
      obtain rfl : z46 = 16 := e47.trans (by first | decide | rfl)
      refine lv_lshr hx hb dX12_feed_58 rfl ?_
      refine lv_topl (fun z48 e49 => ?_)
      refine lv_l2i hx hb dX12_feed_59 rfl ?_
      refine lv_topi (fun z50 e51 => ?_)
      refine lv_i2b hx hb dX12_feed_60 rfl ?_
      refine lv_topi (fun z52 e53 => ?_)
      refine va_bast hx hb hK hP hD hS 1 0 rfl rfl (vp_in_iff.mpr (by decide)) dX12_feed_61 (fun H locs hP hD hS => ?_)
      have hP : va_P D vwCl [(hm, .inr (12, [.int 0, .ref (ma 1), .int 0, .int (-1), .ref (ma 4), .int 0, .int 0, .int 0, .long 0, .int 0, .int 0, .int 0, .int 0, .long 0, .int 0, .int 0, .int 0, .ref (ma 17), .ref (ma 18), .ref (ma 19), .ref (ma 20), .ref (ma 21), .ref (ma 22), .ref (ma 23), .ref (ma 24), .ref (ma 25), .ref (ma 26), .ref (ma 27), .ref (ma 28), .ref (ma 29), .ref (ma 30), .ref (ma 31), .ref (ma 32), .ref (ma 33), .ref (ma 34), .ref (ma 35), .ref (ma 36), .ref (ma 37), .ref (ma 38), .ref (ma 39), .ref (ma 40), .ref (ma 41), .ref (ma 42), .ref (ma 43), .ref (ma 44), .ref (ma 45), .ref (ma 46), .ref (ma 47), .ref (ma 48), .int 0, .int 0, .int 0, .int 0, .int 0, .int 0, .int 0, .int 0, .int 0, .int 0, .ref (ma 59), .ref (ma 60), .int 0, .int 0, .int 0, .int 0, .int 0, .int 0, .ref (ma 67), .ref (ma 68), .ref (ma 69), .int 0, .int (-1), .int 0, .ref (ma 73)])), ((ma 1), .inl (cy 0, 1600, .inl (upd (fun _ => 0) (0 : Int32).toNatClampNeg (vp_nar .byte z52))))] H := hP
      have hD : va_D A [(hm, .inr (12, [.int 0, .ref (ma 1), .int 0, .int (-1), .ref (ma 4), .int 0, .int 0, .int 0, .long 0, .int 0, .int 0, .int 0, .int 0, .long 0, .int 0, .int 0, .int 0, .ref (ma 17), .ref (ma 18), .ref (ma 19), .ref (ma 20), .ref (ma 21), .ref (ma 22), .ref (ma 23), .ref (ma 24), .ref (ma 25), .ref (ma 26), .ref (ma 27), .ref (ma 28), .ref (ma 29), .ref (ma 30), .ref (ma 31), .ref (ma 32), .ref (ma 33), .ref (ma 34), .ref (ma 35), .ref (ma 36), .ref (ma 37), .ref (ma 38), .ref (ma 39), .ref (ma 40), .ref (ma 41), .ref (ma 42), .ref (ma 43), .ref (ma 44), .ref (ma 45), .ref (ma 46), .ref (ma 47), .ref (ma 48), .int 0, .int 0, .int 0, .int 0, .int 0, .int 0, .int 0, .int 0, .int 0, .int 0, .ref (ma 59), .ref (ma 60), .int 0, .int 0, .int 0, .int 0, .int 0, .int 0, .ref (ma 67), .ref (ma 68), .ref (ma 69), .int 0, .int (-1), .int 0, .ref (ma 73)])), ((ma 1), .inl (cy 0, 1600, .inl (upd (fun _ => 0) (0 : Int32).toNatClampNeg (vp_nar .byte z52))))] := hD
      generalize hff54 : (upd (fun _ => 0) (0 : Int32).toNatClampNeg (vp_nar .byte z52)) = f54 at hP hD
      refine lv_aload_n hx hb dX12_feed_62 rfl (lv_at hl 1 rfl) ?_
      refine lv_dup hx hb dX12_feed_63 rfl ?_
      refine va_get (D := D) (ci := 12) (v := .int 0) (C := RX12) (T := TX12) (N := 74) hx hb hT i_TX12 hown hK hP 0 rfl rfl 2 (by decide) (hT _ t_1717) (fun _ h9 => h9) rfl dX12_feed_64 ?_
      refine lv_iconst (v := 1) hx hb dX12_feed_67 (by decide) ?_
      refine lv_iadd hx hb dX12_feed_68 ?_
      refine lv_topi (fun z55 e56 => ?_)
      obtain rfl : z55 = 1 := e56.trans (by first | decide | rfl)
      refine va_put (D := D) (ci := 12) (v := .int 1) (ty := .int) (C := RX12) (T := TX12) (N := 74) hx hb hT i_TX12 tyX12 tyX12_ok nmX12 hown hK hP hD hS 0 rfl rfl 2 (by decide) (hT _ t_1717) (fun _ h9 => h9) rfl (by decide +kernel) rfl rfl (Nat.le_of_ble_eq_true rfl) dX12_feed_69 (fun H locs hP hD hS => ?_)
      have hP : va_P D vwCl [(hm, .inr (12, [.int 0, .ref (ma 1), .int 1, .int (-1), .ref (ma 4), .int 0, .int 0, .int 0, .long 0, .int 0, .int 0, .int 0, .int 0, .long 0, .int 0, .int 0, .int 0, .ref (ma 17), .ref (ma 18), .ref (ma 19), .ref (ma 20), .ref (ma 21), .ref (ma 22), .ref (ma 23), .ref (ma 24), .ref (ma 25), .ref (ma 26), .ref (ma 27), .ref (ma 28), .ref (ma 29), .ref (ma 30), .ref (ma 31), .ref (ma 32), .ref (ma 33), .ref (ma 34), .ref (ma 35), .ref (ma 36), .ref (ma 37), .ref (ma 38), .ref (ma 39), .ref (ma 40), .ref (ma 41), .ref (ma 42), .ref (ma 43), .ref (ma 44), .ref (ma 45), .ref (ma 46), .ref (ma 47), .ref (ma 48), .int 0, .int 0, .int 0, .int 0, .int 0, .int 0, .int 0, .int 0, .int 0, .int 0, .ref (ma 59), .ref (ma 60), .int 0, .int 0, .int 0, .int 0, .int 0, .int 0, .ref (ma 67), .ref (ma 68), .ref (ma 69), .int 0, .int (-1), .int 0, .ref (ma 73)])), ((ma 1), .inl (cy 0, 1600, .inl f54))] H := hP
      have hD : va_D A [(hm, .inr (12, [.int 0, .ref (ma 1), .int 1, .int (-1), .ref (ma 4), .int 0, .int 0, .int 0, .long 0, .int 0, .int 0, .int 0, .int 0, .long 0, .int 0, .int 0, .int 0, .ref (ma 17), .ref (ma 18), .ref (ma 19), .ref (ma 20), .ref (ma 21), .ref (ma 22), .ref (ma 23), .ref (ma 24), .ref (ma 25), .ref (ma 26), .ref (ma 27), .ref (ma 28), .ref (ma 29), .ref (ma 30), .ref (ma 31), .ref (ma 32), .ref (ma 33), .ref (ma 34), .ref (ma 35), .ref (ma 36), .ref (ma 37), .ref (ma 38), .ref (ma 39), .ref (ma 40), .ref (ma 41), .ref (ma 42), .ref (ma 43), .ref (ma 44), .ref (ma 45), .ref (ma 46), .ref (ma 47), .ref (ma 48), .int 0, .int 0, .int 0, .int 0, .int 0, .int 0, .int 0, .int 0, .int 0, .int 0, .ref (ma 59), .ref (ma 60), .int 0, .int 0, .int 0, .int 0, .int 0, .int 0, .ref (ma 67), .ref (ma 68), .ref (ma 69), .int 0, .int (-1), .int 0, .ref (ma 73)])), ((ma 1), .inl (cy 0, 1600, .inl f54))] := hD
      refine lv_iinc (v := 1) (lv' := [(4, .int 1), (0, .ref hm), (1, .long p0), (3, .int (nI 3))]) hx hb dX12_feed_72 hl (k := 0) rfl (by decide) (by decide) rfl (fun ls hl => ?_)
      refine lv_goto (tgt := 39) hx hb dX12_feed_75 (by decide) ?_
      refine lv_iload hx hb dX12_feed_39 (lv_at hl 0 rfl) ?_
      refine lv_if_lt (tgt := 78) hx hb dX12_feed_41 (by decide) (fun c9 => absurd c9 (by decide)) (fun _ => ?_)
      refine lv_aload_n hx hb dX12_feed_44 rfl (lv_at hl 1 rfl) ?_
      refine va_get (D := D) (ci := 12) (v := .ref (ma 1)) (C := RX12) (T := TX12) (N := 74) hx hb hT i_TX12 hown hK hP 0 rfl rfl 1 (by decide) (hT _ t_1716) (fun _ h9 => h9) rfl dX12_feed_45 ?_
      refine lv_aload_n hx hb dX12_feed_48 rfl (lv_at hl 1 rfl) ?_
      refine va_get (D := D) (ci := 12) (v := .int 1) (C := RX12) (T := TX12) (N := 74) hx hb hT i_TX12 hown hK hP 0 rfl rfl 2 (by decide) (hT _ t_1717) (fun _ h9 => h9) rfl dX12_feed_49 ?_
      refine lv_lload_n hx hb dX12_feed_52 rfl (lv_at hl 2 rfl) ?_
      refine lv_bipush (v := 8) hx hb dX12_feed_53 (by decide) ?_
      refine lv_iload hx hb dX12_feed_55 (lv_at hl 0 rfl) ?_
      refine lv_imul hx hb dX12_feed_57 ?_
      refine lv_topi (fun z57 e58 => ?_)
      obtain rfl : z57 = 8 := e58.trans (by first | decide | rfl)
      refine lv_lshr hx hb dX12_feed_58 rfl ?_
      refine lv_topl (fun z59 e60 => ?_)
      refine lv_l2i hx hb dX12_feed_59 rfl ?_
      refine lv_topi (fun z61 e62 => ?_)
      refine lv_i2b hx hb dX12_feed_60 rfl ?_
      refine lv_topi (fun z63 e64 => ?_)
      refine va_bast hx hb hK hP hD hS 1 0 rfl rfl (vp_in_iff.mpr (by decide)) dX12_feed_61 (fun H locs hP hD hS => ?_)
      have hP : va_P D vwCl [(hm, .inr (12, [.int 0, .ref (ma 1), .int 1, .int (-1), .ref (ma 4), .int 0, .int 0, .int 0, .long 0, .int 0, .int 0, .int 0, .int 0, .long 0, .int 0, .int 0, .int 0, .ref (ma 17), .ref (ma 18), .ref (ma 19), .ref (ma 20), .ref (ma 21), .ref (ma 22), .ref (ma 23), .ref (ma 24), .ref (ma 25), .ref (ma 26), .ref (ma 27), .ref (ma 28), .ref (ma 29), .ref (ma 30), .ref (ma 31), .ref (ma 32), .ref (ma 33), .ref (ma 34), .ref (ma 35), .ref (ma 36), .ref (ma 37), .ref (ma 38), .ref (ma 39), .ref (ma 40), .ref (ma 41), .ref (ma 42), .ref (ma 43), .ref (ma 44), .ref (ma 45), .ref (ma 46), .ref (ma 47), .ref (ma 48), .int 0, .int 0, .int 0, .int 0, .int 0, .int 0, .int 0, .int 0, .int 0, .int 0, .ref (ma 59), .ref (ma 60), .int 0, .int 0, .int 0, .int 0, .int 0, .int 0, .ref (ma 67), .ref (ma 68), .ref (ma 69), .int 0, .int (-1), .int 0, .ref (ma 73)])), ((ma 1), .inl (cy 0, 1600, .inl (upd f54 (1 : Int32).toNatClampNeg (vp_nar .byte z63))))] H := hP
      have hD : va_D A [(hm, .inr (12, [.int 0, .ref (ma 1), .int 1, .int (-1), .ref (ma 4), .int 0, .int 0, .int 0, .long 0, .int 0, .int 0, .int 0, .int 0, .long 0, .int 0, .int 0, .int 0, .ref (ma 17), .ref (ma 18), .ref (ma 19), .ref (ma 20), .ref (ma 21), .ref (ma 22), .ref (ma 23), .ref (ma 24), .ref (ma 25), .ref (ma 26), .ref (ma 27), .ref (ma 28), .ref (ma 29), .ref (ma 30), .ref (ma 31), .ref (ma 32), .ref (ma 33), .ref (ma 34), .ref (ma 35), .ref (ma 36), .ref (ma 37), .ref (ma 38), .ref (ma 39), .ref (ma 40), .ref (ma 41), .ref (ma 42), .ref (ma 43), .ref (ma 44), .ref (ma 45), .ref (ma 46), .ref (ma 47), .ref (ma 48), .int 0, .int 0, .int 0, .int 0, .int 0, .int 0, .int 0, .int 0, .int 0, .int 0, .ref (ma 59), .ref (ma 60), .int 0, .int 0, .int 0, .int 0, .int 0, .int 0, .ref (ma 67), .ref (ma 68), .ref (ma 69), .int 0, .int (-1), .int 0, .ref (ma 73)])), ((ma 1), .inl (cy 0, 1600, .inl (upd f54 (1 : Int32).toNatClampNeg (vp_nar .byte z63))))] := hD
      generalize hff65 : (upd f54 (1 : Int32).toNatClampNeg (vp_nar .byte z63)) = f65 at hP hD
      refine lv_aload_n hx hb dX12_feed_62 rfl (lv_at hl 1 rfl) ?_
      refine lv_dup hx hb dX12_feed_63 rfl ?_
      refine va_get (D := D) (ci := 12) (v := .int 1) (C := RX12) (T := TX12) (N := 74) hx hb hT i_TX12 hown hK hP 0 rfl rfl 2 (by decide) (hT _ t_1717) (fun _ h9 => h9) rfl dX12_feed_64 ?_
      refine lv_iconst (v := 1) hx hb dX12_feed_67 (by decide) ?_
      refine lv_iadd hx hb dX12_feed_68 ?_
      refine lv_topi (fun z66 e67 => ?_)
      obtain rfl : z66 = 2 := e67.trans (by first | decide | rfl)
      refine va_put (D := D) (ci := 12) (v := .int 2) (ty := .int) (C := RX12) (T := TX12) (N := 74) hx hb hT i_TX12 tyX12 tyX12_ok nmX12 hown hK hP hD hS 0 rfl rfl 2 (by decide) (hT _ t_1717) (fun _ h9 => h9) rfl (by decide +kernel) rfl rfl (Nat.le_of_ble_eq_true rfl) dX12_feed_69 (fun H locs hP hD hS => ?_)
      have hP : va_P D vwCl [(hm, .inr (12, [.int 0, .ref (ma 1), .int 2, .int (-1), .ref (ma 4), .int 0, .int 0, .int 0, .long 0, .int 0, .int 0, .int 0, .int 0, .long 0, .int 0, .int 0, .int 0, .ref (ma 17), .ref (ma 18), .ref (ma 19), .ref (ma 20), .ref (ma 21), .ref (ma 22), .ref (ma 23), .ref (ma 24), .ref (ma 25), .ref (ma 26), .ref (ma 27), .ref (ma 28), .ref (ma 29), .ref (ma 30), .ref (ma 31), .ref (ma 32), .ref (ma 33), .ref (ma 34), .ref (ma 35), .ref (ma 36), .ref (ma 37), .ref (ma 38), .ref (ma 39), .ref (ma 40), .ref (ma 41), .ref (ma 42), .ref (ma 43), .ref (ma 44), .ref (ma 45), .ref (ma 46), .ref (ma 47), .ref (ma 48), .int 0, .int 0, .int 0, .int 0, .int 0, .int 0, .int 0, .int 0, .int 0, .int 0, .ref (ma 59), .ref (ma 60), .int 0, .int 0, .int 0, .int 0, .int 0, .int 0, .ref (ma 67), .ref (ma 68), .ref (ma 69), .int 0, .int (-1), .int 0, .ref (ma 73)])), ((ma 1), .inl (cy 0, 1600, .inl f65))] H := hP
      have hD : va_D A [(hm, .inr (12, [.int 0, .ref (ma 1), .int 2, .int (-1), .ref (ma 4), .int 0, .int 0, .int 0, .long 0, .int 0, .int 0, .int 0, .int 0, .long 0, .int 0, .int 0, .int 0, .ref (ma 17), .ref (ma 18), .ref (ma 19), .ref (ma 20), .ref (ma 21), .ref (ma 22), .ref (ma 23), .ref (ma 24), .ref (ma 25), .ref (ma 26), .ref (ma 27), .ref (ma 28), .ref (ma 29), .ref (ma 30), .ref (ma 31), .ref (ma 32), .ref (ma 33), .ref (ma 34), .ref (ma 35), .ref (ma 36), .ref (ma 37), .ref (ma 38), .ref (ma 39), .ref (ma 40), .ref (ma 41), .ref (ma 42), .ref (ma 43), .ref (ma 44), .ref (ma 45), .ref (ma 46), .ref (ma 47), .ref (ma 48), .int 0, .int 0, .int 0, .int 0, .int 0, .int 0, .int 0, .int 0, .int 0, .int 0, .ref (ma 59), .ref (ma 60), .int 0, .int 0, .int 0, .int 0, .int 0, .int 0, .ref (ma 67), .ref (ma 68), .ref (ma 69), .int 0, .int (-1), .int 0, .ref (ma 73)])), ((ma 1), .inl (cy 0, 1600, .inl f65))] := hD
      refine lv_iinc (v := 0) (lv' := [(4, .int 0), (0, .ref hm), (1, .long p0), (3, .int (nI 3))]) hx hb dX12_feed_72 hl (k := 0) rfl (by decide) (by decide) rfl (fun ls hl => ?_)
      refine lv_goto (tgt := 39) hx hb dX12_feed_75 (by decide) ?_
      refine lv_iload hx hb dX12_feed_39 (lv_at hl 0 rfl) ?_
      refine lv_if_lt (tgt := 78) hx hb dX12_feed_41 (by decide) (fun c9 => absurd c9 (by decide)) (fun _ => ?_)
      refine lv_aload_n hx hb dX12_feed_44 rfl (lv_at hl 1 rfl) ?_
      refine va_get (D := D) (ci := 12) (v := .ref (ma 1)) (C := RX12) (T := TX12) (N := 74) hx hb hT i_TX12 hown hK hP 0 rfl rfl 1 (by decide) (hT _ t_1716) (fun _ h9 => h9) rfl dX12_feed_45 ?_
      refine lv_aload_n hx hb dX12_feed_48 rfl (lv_at hl 1 rfl) ?_
      refine va_get (D := D) (ci := 12) (v := .int 2) (C := RX12) (T := TX12) (N := 74) hx hb hT i_TX12 hown hK hP 0 rfl rfl 2 (by decide) (hT _ t_1717) (fun _ h9 => h9) rfl dX12_feed_49 ?_
      refine lv_lload_n hx hb dX12_feed_52 rfl (lv_at hl 2 rfl) ?_
      refine lv_bipush (v := 8) hx hb dX12_feed_53 (by decide) ?_
      refine lv_iload hx hb dX12_feed_55 (lv_at hl 0 rfl) ?_
      refine lv_imul hx hb dX12_feed_57 ?_
      refine lv_topi (fun z68 e69 => ?_)
      obtain rfl : z68 = 0 := e69.trans (by first | decide | rfl)
      refine lv_lshr hx hb dX12_feed_58 rfl ?_
      refine lv_topl (fun z70 e71 => ?_)
      refine lv_l2i hx hb dX12_feed_59 rfl ?_
      refine lv_topi (fun z72 e73 => ?_)
      refine lv_i2b hx hb dX12_feed_60 rfl ?_
      refine lv_topi (fun z74 e75 => ?_)
      refine va_bast hx hb hK hP hD hS 1 0 rfl rfl (vp_in_iff.mpr (by decide)) dX12_feed_61 (fun H locs hP hD hS => ?_)
      have hP : va_P D vwCl [(hm, .inr (12, [.int 0, .ref (ma 1), .int 2, .int (-1), .ref (ma 4), .int 0, .int 0, .int 0, .long 0, .int 0, .int 0, .int 0, .int 0, .long 0, .int 0, .int 0, .int 0, .ref (ma 17), .ref (ma 18), .ref (ma 19), .ref (ma 20), .ref (ma 21), .ref (ma 22), .ref (ma 23), .ref (ma 24), .ref (ma 25), .ref (ma 26), .ref (ma 27), .ref (ma 28), .ref (ma 29), .ref (ma 30), .ref (ma 31), .ref (ma 32), .ref (ma 33), .ref (ma 34), .ref (ma 35), .ref (ma 36), .ref (ma 37), .ref (ma 38), .ref (ma 39), .ref (ma 40), .ref (ma 41), .ref (ma 42), .ref (ma 43), .ref (ma 44), .ref (ma 45), .ref (ma 46), .ref (ma 47), .ref (ma 48), .int 0, .int 0, .int 0, .int 0, .int 0, .int 0, .int 0, .int 0, .int 0, .int 0, .ref (ma 59), .ref (ma 60), .int 0, .int 0, .int 0, .int 0, .int 0, .int 0, .ref (ma 67), .ref (ma 68), .ref (ma 69), .int 0, .int (-1), .int 0, .ref (ma 73)])), ((ma 1), .inl (cy 0, 1600, .inl (upd f65 (2 : Int32).toNatClampNeg (vp_nar .byte z74))))] H := hP
      have hD : va_D A [(hm, .inr (12, [.int 0, .ref (ma 1), .int 2, .int (-1), .ref (ma 4), .int 0, .int 0, .int 0, .long 0, .int 0, .int 0, .int 0, .int 0, .long 0, .int 0, .int 0, .int 0, .ref (ma 17), .ref (ma 18), .ref (ma 19), .ref (ma 20), .ref (ma 21), .ref (ma 22), .ref (ma 23), .ref (ma 24), .ref (ma 25), .ref (ma 26), .ref (ma 27), .ref (ma 28), .ref (ma 29), .ref (ma 30), .ref (ma 31), .ref (ma 32), .ref (ma 33), .ref (ma 34), .ref (ma 35), .ref (ma 36), .ref (ma 37), .ref (ma 38), .ref (ma 39), .ref (ma 40), .ref (ma 41), .ref (ma 42), .ref (ma 43), .ref (ma 44), .ref (ma 45), .ref (ma 46), .ref (ma 47), .ref (ma 48), .int 0, .int 0, .int 0, .int 0, .int 0, .int 0, .int 0, .int 0, .int 0, .int 0, .ref (ma 59), .ref (ma 60), .int 0, .int 0, .int 0, .int 0, .int 0, .int 0, .ref (ma 67), .ref (ma 68), .ref (ma 69), .int 0, .int (-1), .int 0, .ref (ma 73)])), ((ma 1), .inl (cy 0, 1600, .inl (upd f65 (2 : Int32).toNatClampNeg (vp_nar .byte z74))))] := hD
      generalize hff76 : (upd f65 (2 : Int32).toNatClampNeg (vp_nar .byte z74)) = f76 at hP hD
      refine lv_aload_n hx hb dX12_feed_62 rfl (lv_at hl 1 rfl) ?_
      refine lv_dup hx hb dX12_feed_63 rfl ?_
      refine va_get (D := D) (ci := 12) (v := .int 2) (C := RX12) (T := TX12) (N := 74) hx hb hT i_TX12 hown hK hP 0 rfl rfl 2 (by decide) (hT _ t_1717) (fun _ h9 => h9) rfl dX12_feed_64 ?_
      refine lv_iconst (v := 1) hx hb dX12_feed_67 (by decide) ?_
      refine lv_iadd hx hb dX12_feed_68 ?_
      refine lv_topi (fun z77 e78 => ?_)
      obtain rfl : z77 = 3 := e78.trans (by first | decide | rfl)
      refine va_put (D := D) (ci := 12) (v := .int 3) (ty := .int) (C := RX12) (T := TX12) (N := 74) hx hb hT i_TX12 tyX12 tyX12_ok nmX12 hown hK hP hD hS 0 rfl rfl 2 (by decide) (hT _ t_1717) (fun _ h9 => h9) rfl (by decide +kernel) rfl rfl (Nat.le_of_ble_eq_true rfl) dX12_feed_69 (fun H locs hP hD hS => ?_)
      have hP : va_P D vwCl [(hm, .inr (12, [.int 0, .ref (ma 1), .int 3, .int (-1), .ref (ma 4), .int 0, .int 0, .int 0, .long 0, .int 0, .int 0, .int 0, .int 0, .long 0, .int 0, .int 0, .int 0, .ref (ma 17), .ref (ma 18), .ref (ma 19), .ref (ma 20), .ref (ma 21), .ref (ma 22), .ref (ma 23), .ref (ma 24), .ref (ma 25), .ref (ma 26), .ref (ma 27), .ref (ma 28), .ref (ma 29), .ref (ma 30), .ref (ma 31), .ref (ma 32), .ref (ma 33), .ref (ma 34), .ref (ma 35), .ref (ma 36), .ref (ma 37), .ref (ma 38), .ref (ma 39), .ref (ma 40), .ref (ma 41), .ref (ma 42), .ref (ma 43), .ref (ma 44), .ref (ma 45), .ref (ma 46), .ref (ma 47), .ref (ma 48), .int 0, .int 0, .int 0, .int 0, .int 0, .int 0, .int 0, .int 0, .int 0, .int 0, .ref (ma 59), .ref (ma 60), .int 0, .int 0, .int 0, .int 0, .int 0, .int 0, .ref (ma 67), .ref (ma 68), .ref (ma 69), .int 0, .int (-1), .int 0, .ref (ma 73)])), ((ma 1), .inl (cy 0, 1600, .inl f76))] H := hP
      have hD : va_D A [(hm, .inr (12, [.int 0, .ref (ma 1), .int 3, .int (-1), .ref (ma 4), .int 0, .int 0, .int 0, .long 0, .int 0, .int 0, .int 0, .int 0, .long 0, .int 0, .int 0, .int 0, .ref (ma 17), .ref (ma 18), .ref (ma 19), .ref (ma 20), .ref (ma 21), .ref (ma 22), .ref (ma 23), .ref (ma 24), .ref (ma 25), .ref (ma 26), .ref (ma 27), .ref (ma 28), .ref (ma 29), .ref (ma 30), .ref (ma 31), .ref (ma 32), .ref (ma 33), .ref (ma 34), .ref (ma 35), .ref (ma 36), .ref (ma 37), .ref (ma 38), .ref (ma 39), .ref (ma 40), .ref (ma 41), .ref (ma 42), .ref (ma 43), .ref (ma 44), .ref (ma 45), .ref (ma 46), .ref (ma 47), .ref (ma 48), .int 0, .int 0, .int 0, .int 0, .int 0, .int 0, .int 0, .int 0, .int 0, .int 0, .ref (ma 59), .ref (ma 60), .int 0, .int 0, .int 0, .int 0, .int 0, .int 0, .ref (ma 67), .ref (ma 68), .ref (ma 69), .int 0, .int (-1), .int 0, .ref (ma 73)])), ((ma 1), .inl (cy 0, 1600, .inl f76))] := hD
      refine lv_iinc (v := (-1)) (lv' := [(4, .int (-1)), (0, .ref hm), (1, .long p0), (3, .int (nI 3))]) hx hb dX12_feed_72 hl (k := 0) rfl (by decide) (by decide) rfl (fun ls hl => ?_)
      refine lv_goto (tgt := 39) hx hb dX12_feed_75 (by decide) ?_
      refine lv_iload hx hb dX12_feed_39 (lv_at hl 0 rfl) ?_
      refine lv_if_lt (tgt := 78) hx hb dX12_feed_41 (by decide) (fun _ => ?_) (fun c9 => absurd (by decide) c9)
      refine lv_aload_n hx hb dX12_feed_78 rfl (lv_at hl 1 rfl) ?_
      refine va_get (D := D) (ci := 12) (v := .int 3) (C := RX12) (T := TX12) (N := 74) hx hb hT i_TX12 hown hK hP 0 rfl rfl 2 (by decide) (hT _ t_1717) (fun _ h9 => h9) rfl dX12_feed_79 ?_
      have hP9 := hP.sub (ws' := []) [] rfl
      have hD9 := hD.sub (ws' := []) [] (by decide) rfl
      refine W.widen (k := 0) (n := 0) (Nat.le_of_ble_eq_true rfl) (Nat.le_of_ble_eq_true rfl) ?_
      exact W.iret (v := 3) hx hb hr (fun t ht hW => ⟨⟨3, (), rfl, (by decide), by rw [ht]; exact hP9, hD9⟩, hS.F ht⟩) hS.2.2 dX12_feed_82
    · refine lv_aload_n hx hb dX12_feed_0 rfl (lv_at hl 0 rfl) ?_
      refine lv_iconst (v := 0) hx hb dX12_feed_1 (by decide) ?_
      refine va_put (D := D) (ci := 12) (v := .int 0) (ty := .int) (C := RX12) (T := TX12) (N := 74) hx hb hT i_TX12 tyX12 tyX12_ok nmX12 hown hK hP hD hS 0 rfl rfl 0 (by decide) (hT _ t_1715) (fun _ h9 => h9) rfl (by decide +kernel) rfl rfl (Nat.le_of_ble_eq_true rfl) dX12_feed_2 (fun H locs hP hD hS => ?_)
      have hP : va_P D vwCl [(hm, .inr (12, [.int 0, .ref (ma 1), .int 0, .int (-1), .ref (ma 4), .int 0, .int 0, .int 0, .long 0, .int 0, .int 0, .int 0, .int 0, .long 0, .int 0, .int 0, .int 0, .ref (ma 17), .ref (ma 18), .ref (ma 19), .ref (ma 20), .ref (ma 21), .ref (ma 22), .ref (ma 23), .ref (ma 24), .ref (ma 25), .ref (ma 26), .ref (ma 27), .ref (ma 28), .ref (ma 29), .ref (ma 30), .ref (ma 31), .ref (ma 32), .ref (ma 33), .ref (ma 34), .ref (ma 35), .ref (ma 36), .ref (ma 37), .ref (ma 38), .ref (ma 39), .ref (ma 40), .ref (ma 41), .ref (ma 42), .ref (ma 43), .ref (ma 44), .ref (ma 45), .ref (ma 46), .ref (ma 47), .ref (ma 48), .int 0, .int 0, .int 0, .int 0, .int 0, .int 0, .int 0, .int 0, .int 0, .int 0, .ref (ma 59), .ref (ma 60), .int 0, .int 0, .int 0, .int 0, .int 0, .int 0, .ref (ma 67), .ref (ma 68), .ref (ma 69), .int 0, .int (-1), .int 0, .ref (ma 73)])), ((ma 1), .inl (cy 0, 1600, .inl (fun _ => 0)))] H := hP
      have hD : va_D A [(hm, .inr (12, [.int 0, .ref (ma 1), .int 0, .int (-1), .ref (ma 4), .int 0, .int 0, .int 0, .long 0, .int 0, .int 0, .int 0, .int 0, .long 0, .int 0, .int 0, .int 0, .ref (ma 17), .ref (ma 18), .ref (ma 19), .ref (ma 20), .ref (ma 21), .ref (ma 22), .ref (ma 23), .ref (ma 24), .ref (ma 25), .ref (ma 26), .ref (ma 27), .ref (ma 28), .ref (ma 29), .ref (ma 30), .ref (ma 31), .ref (ma 32), .ref (ma 33), .ref (ma 34), .ref (ma 35), .ref (ma 36), .ref (ma 37), .ref (ma 38), .ref (ma 39), .ref (ma 40), .ref (ma 41), .ref (ma 42), .ref (ma 43), .ref (ma 44), .ref (ma 45), .ref (ma 46), .ref (ma 47), .ref (ma 48), .int 0, .int 0, .int 0, .int 0, .int 0, .int 0, .int 0, .int 0, .int 0, .int 0, .ref (ma 59), .ref (ma 60), .int 0, .int 0, .int 0, .int 0, .int 0, .int 0, .ref (ma 67), .ref (ma 68), .ref (ma 69), .int 0, .int (-1), .int 0, .ref (ma 73)])), ((ma 1), .inl (cy 0, 1600, .inl (fun _ => 0)))] := hD
      refine lv_iload_n hx hb dX12_feed_5 rfl (lv_at hl 2 rfl) ?_
      refine lv_iconst (v := 1) hx hb dX12_feed_6 (by decide) ?_
      refine lv_icmp_lt (tgt := 16) hx hb dX12_feed_7 (by decide) (fun c9 => absurd c9 (by decide)) (fun _ => ?_)
      refine lv_iload_n hx hb dX12_feed_10 rfl (lv_at hl 2 rfl) ?_
      refine lv_bipush (v := 8) hx hb dX12_feed_11 (by decide) ?_
      refine lv_icmp_le (tgt := 19) hx hb dX12_feed_13 (by decide) (fun _ => ?_) (fun c9 => absurd (by decide) c9)
      refine lv_aload_n hx hb dX12_feed_19 rfl (lv_at hl 0 rfl) ?_
      refine va_get (D := D) (ci := 12) (v := .int 0) (C := RX12) (T := TX12) (N := 74) hx hb hT i_TX12 hown hK hP 0 rfl rfl 2 (by decide) (hT _ t_1717) (fun _ h9 => h9) rfl dX12_feed_20 ?_
      refine lv_iload_n hx hb dX12_feed_23 rfl (lv_at hl 2 rfl) ?_
      refine lv_iadd hx hb dX12_feed_24 ?_
      refine lv_topi (fun z79 e80 => ?_)
      obtain rfl : z79 = 4 := e80.trans (by first | decide | rfl)
      refine lv_sipush (v := 1600) hx hb dX12_feed_25 (by decide) ?_
      refine lv_icmp_le (tgt := 34) hx hb dX12_feed_28 (by decide) (fun _ => ?_) (fun c9 => absurd (by decide) c9)
      refine lv_iload_n hx hb dX12_feed_34 rfl (lv_at hl 2 rfl) ?_
      refine lv_iconst (v := 1) hx hb dX12_feed_35 (by decide) ?_
      refine lv_isub hx hb dX12_feed_36 ?_
      refine lv_topi (fun z81 e82 => ?_)
      obtain rfl : z81 = 3 := e82.trans (by first | decide | rfl)
      refine lv_istore (lv' := [(4, .int 3), (0, .ref hm), (1, .long p0), (3, .int (nI 4))]) hx hb dX12_feed_37 hl (by decide) rfl (fun ls hl => ?_)
      refine lv_iload hx hb dX12_feed_39 (lv_at hl 0 rfl) ?_
      refine lv_if_lt (tgt := 78) hx hb dX12_feed_41 (by decide) (fun c9 => absurd c9 (by decide)) (fun _ => ?_)
      refine lv_aload_n hx hb dX12_feed_44 rfl (lv_at hl 1 rfl) ?_
      refine va_get (D := D) (ci := 12) (v := .ref (ma 1)) (C := RX12) (T := TX12) (N := 74) hx hb hT i_TX12 hown hK hP 0 rfl rfl 1 (by decide) (hT _ t_1716) (fun _ h9 => h9) rfl dX12_feed_45 ?_
      refine lv_aload_n hx hb dX12_feed_48 rfl (lv_at hl 1 rfl) ?_
      refine va_get (D := D) (ci := 12) (v := .int 0) (C := RX12) (T := TX12) (N := 74) hx hb hT i_TX12 hown hK hP 0 rfl rfl 2 (by decide) (hT _ t_1717) (fun _ h9 => h9) rfl dX12_feed_49 ?_
      refine lv_lload_n hx hb dX12_feed_52 rfl (lv_at hl 2 rfl) ?_
      refine lv_bipush (v := 8) hx hb dX12_feed_53 (by decide) ?_
      refine lv_iload hx hb dX12_feed_55 (lv_at hl 0 rfl) ?_
      refine lv_imul hx hb dX12_feed_57 ?_
      refine lv_topi (fun z83 e84 => ?_)
      obtain rfl : z83 = 24 := e84.trans (by first | decide | rfl)
      refine lv_lshr hx hb dX12_feed_58 rfl ?_
      refine lv_topl (fun z85 e86 => ?_)
      refine lv_l2i hx hb dX12_feed_59 rfl ?_
      refine lv_topi (fun z87 e88 => ?_)
      refine lv_i2b hx hb dX12_feed_60 rfl ?_
      refine lv_topi (fun z89 e90 => ?_)
      refine va_bast hx hb hK hP hD hS 1 0 rfl rfl (vp_in_iff.mpr (by decide)) dX12_feed_61 (fun H locs hP hD hS => ?_)
      have hP : va_P D vwCl [(hm, .inr (12, [.int 0, .ref (ma 1), .int 0, .int (-1), .ref (ma 4), .int 0, .int 0, .int 0, .long 0, .int 0, .int 0, .int 0, .int 0, .long 0, .int 0, .int 0, .int 0, .ref (ma 17), .ref (ma 18), .ref (ma 19), .ref (ma 20), .ref (ma 21), .ref (ma 22), .ref (ma 23), .ref (ma 24), .ref (ma 25), .ref (ma 26), .ref (ma 27), .ref (ma 28), .ref (ma 29), .ref (ma 30), .ref (ma 31), .ref (ma 32), .ref (ma 33), .ref (ma 34), .ref (ma 35), .ref (ma 36), .ref (ma 37), .ref (ma 38), .ref (ma 39), .ref (ma 40), .ref (ma 41), .ref (ma 42), .ref (ma 43), .ref (ma 44), .ref (ma 45), .ref (ma 46), .ref (ma 47), .ref (ma 48), .int 0, .int 0, .int 0, .int 0, .int 0, .int 0, .int 0, .int 0, .int 0, .int 0, .ref (ma 59), .ref (ma 60), .int 0, .int 0, .int 0, .int 0, .int 0, .int 0, .ref (ma 67), .ref (ma 68), .ref (ma 69), .int 0, .int (-1), .int 0, .ref (ma 73)])), ((ma 1), .inl (cy 0, 1600, .inl (upd (fun _ => 0) (0 : Int32).toNatClampNeg (vp_nar .byte z89))))] H := hP
      have hD : va_D A [(hm, .inr (12, [.int 0, .ref (ma 1), .int 0, .int (-1), .ref (ma 4), .int 0, .int 0, .int 0, .long 0, .int 0, .int 0, .int 0, .int 0, .long 0, .int 0, .int 0, .int 0, .ref (ma 17), .ref (ma 18), .ref (ma 19), .ref (ma 20), .ref (ma 21), .ref (ma 22), .ref (ma 23), .ref (ma 24), .ref (ma 25), .ref (ma 26), .ref (ma 27), .ref (ma 28), .ref (ma 29), .ref (ma 30), .ref (ma 31), .ref (ma 32), .ref (ma 33), .ref (ma 34), .ref (ma 35), .ref (ma 36), .ref (ma 37), .ref (ma 38), .ref (ma 39), .ref (ma 40), .ref (ma 41), .ref (ma 42), .ref (ma 43), .ref (ma 44), .ref (ma 45), .ref (ma 46), .ref (ma 47), .ref (ma 48), .int 0, .int 0, .int 0, .int 0, .int 0, .int 0, .int 0, .int 0, .int 0, .int 0, .ref (ma 59), .ref (ma 60), .int 0, .int 0, .int 0, .int 0, .int 0, .int 0, .ref (ma 67), .ref (ma 68), .ref (ma 69), .int 0, .int (-1), .int 0, .ref (ma 73)])), ((ma 1), .inl (cy 0, 1600, .inl (upd (fun _ => 0) (0 : Int32).toNatClampNeg (vp_nar .byte z89))))] := hD
      generalize hff91 : (upd (fun _ => 0) (0 : Int32).toNatClampNeg (vp_nar .byte z89)) = f91 at hP hD
      refine lv_aload_n hx hb dX12_feed_62 rfl (lv_at hl 1 rfl) ?_
      refine lv_dup hx hb dX12_feed_63 rfl ?_
      refine va_get (D := D) (ci := 12) (v := .int 0) (C := RX12) (T := TX12) (N := 74) hx hb hT i_TX12 hown hK hP 0 rfl rfl 2 (by decide) (hT _ t_1717) (fun _ h9 => h9) rfl dX12_feed_64 ?_
      refine lv_iconst (v := 1) hx hb dX12_feed_67 (by decide) ?_
      refine lv_iadd hx hb dX12_feed_68 ?_
      refine lv_topi (fun z92 e93 => ?_)
      obtain rfl : z92 = 1 := e93.trans (by first | decide | rfl)
      refine va_put (D := D) (ci := 12) (v := .int 1) (ty := .int) (C := RX12) (T := TX12) (N := 74) hx hb hT i_TX12 tyX12 tyX12_ok nmX12 hown hK hP hD hS 0 rfl rfl 2 (by decide) (hT _ t_1717) (fun _ h9 => h9) rfl (by decide +kernel) rfl rfl (Nat.le_of_ble_eq_true rfl) dX12_feed_69 (fun H locs hP hD hS => ?_)
      have hP : va_P D vwCl [(hm, .inr (12, [.int 0, .ref (ma 1), .int 1, .int (-1), .ref (ma 4), .int 0, .int 0, .int 0, .long 0, .int 0, .int 0, .int 0, .int 0, .long 0, .int 0, .int 0, .int 0, .ref (ma 17), .ref (ma 18), .ref (ma 19), .ref (ma 20), .ref (ma 21), .ref (ma 22), .ref (ma 23), .ref (ma 24), .ref (ma 25), .ref (ma 26), .ref (ma 27), .ref (ma 28), .ref (ma 29), .ref (ma 30), .ref (ma 31), .ref (ma 32), .ref (ma 33), .ref (ma 34), .ref (ma 35), .ref (ma 36), .ref (ma 37), .ref (ma 38), .ref (ma 39), .ref (ma 40), .ref (ma 41), .ref (ma 42), .ref (ma 43), .ref (ma 44), .ref (ma 45), .ref (ma 46), .ref (ma 47), .ref (ma 48), .int 0, .int 0, .int 0, .int 0, .int 0, .int 0, .int 0, .int 0, .int 0, .int 0, .ref (ma 59), .ref (ma 60), .int 0, .int 0, .int 0, .int 0, .int 0, .int 0, .ref (ma 67), .ref (ma 68), .ref (ma 69), .int 0, .int (-1), .int 0, .ref (ma 73)])), ((ma 1), .inl (cy 0, 1600, .inl f91))] H := hP
      have hD : va_D A [(hm, .inr (12, [.int 0, .ref (ma 1), .int 1, .int (-1), .ref (ma 4), .int 0, .int 0, .int 0, .long 0, .int 0, .int 0, .int 0, .int 0, .long 0, .int 0, .int 0, .int 0, .ref (ma 17), .ref (ma 18), .ref (ma 19), .ref (ma 20), .ref (ma 21), .ref (ma 22), .ref (ma 23), .ref (ma 24), .ref (ma 25), .ref (ma 26), .ref (ma 27), .ref (ma 28), .ref (ma 29), .ref (ma 30), .ref (ma 31), .ref (ma 32), .ref (ma 33), .ref (ma 34), .ref (ma 35), .ref (ma 36), .ref (ma 37), .ref (ma 38), .ref (ma 39), .ref (ma 40), .ref (ma 41), .ref (ma 42), .ref (ma 43), .ref (ma 44), .ref (ma 45), .ref (ma 46), .ref (ma 47), .ref (ma 48), .int 0, .int 0, .int 0, .int 0, .int 0, .int 0, .int 0, .int 0, .int 0, .int 0, .ref (ma 59), .ref (ma 60), .int 0, .int 0, .int 0, .int 0, .int 0, .int 0, .ref (ma 67), .ref (ma 68), .ref (ma 69), .int 0, .int (-1), .int 0, .ref (ma 73)])), ((ma 1), .inl (cy 0, 1600, .inl f91))] := hD
      refine lv_iinc (v := 2) (lv' := [(4, .int 2), (0, .ref hm), (1, .long p0), (3, .int (nI 4))]) hx hb dX12_feed_72 hl (k := 0) rfl (by decide) (by decide) rfl (fun ls hl => ?_)
      refine lv_goto (tgt := 39) hx hb dX12_feed_75 (by decide) ?_
      refine lv_iload hx hb dX12_feed_39 (lv_at hl 0 rfl) ?_
      refine lv_if_lt (tgt := 78) hx hb dX12_feed_41 (by decide) (fun c9 => absurd c9 (by decide)) (fun _ => ?_)
      refine lv_aload_n hx hb dX12_feed_44 rfl (lv_at hl 1 rfl) ?_
      refine va_get (D := D) (ci := 12) (v := .ref (ma 1)) (C := RX12) (T := TX12) (N := 74) hx hb hT i_TX12 hown hK hP 0 rfl rfl 1 (by decide) (hT _ t_1716) (fun _ h9 => h9) rfl dX12_feed_45 ?_
      refine lv_aload_n hx hb dX12_feed_48 rfl (lv_at hl 1 rfl) ?_
      refine va_get (D := D) (ci := 12) (v := .int 1) (C := RX12) (T := TX12) (N := 74) hx hb hT i_TX12 hown hK hP 0 rfl rfl 2 (by decide) (hT _ t_1717) (fun _ h9 => h9) rfl dX12_feed_49 ?_
      refine lv_lload_n hx hb dX12_feed_52 rfl (lv_at hl 2 rfl) ?_
      refine lv_bipush (v := 8) hx hb dX12_feed_53 (by decide) ?_
      refine lv_iload hx hb dX12_feed_55 (lv_at hl 0 rfl) ?_
      refine lv_imul hx hb dX12_feed_57 ?_
      refine lv_topi (fun z94 e95 => ?_)
      obtain rfl : z94 = 16 := e95.trans (by first | decide | rfl)
      refine lv_lshr hx hb dX12_feed_58 rfl ?_
      refine lv_topl (fun z96 e97 => ?_)
      refine lv_l2i hx hb dX12_feed_59 rfl ?_
      refine lv_topi (fun z98 e99 => ?_)
      refine lv_i2b hx hb dX12_feed_60 rfl ?_
      refine lv_topi (fun z100 e101 => ?_)
      refine va_bast hx hb hK hP hD hS 1 0 rfl rfl (vp_in_iff.mpr (by decide)) dX12_feed_61 (fun H locs hP hD hS => ?_)
      have hP : va_P D vwCl [(hm, .inr (12, [.int 0, .ref (ma 1), .int 1, .int (-1), .ref (ma 4), .int 0, .int 0, .int 0, .long 0, .int 0, .int 0, .int 0, .int 0, .long 0, .int 0, .int 0, .int 0, .ref (ma 17), .ref (ma 18), .ref (ma 19), .ref (ma 20), .ref (ma 21), .ref (ma 22), .ref (ma 23), .ref (ma 24), .ref (ma 25), .ref (ma 26), .ref (ma 27), .ref (ma 28), .ref (ma 29), .ref (ma 30), .ref (ma 31), .ref (ma 32), .ref (ma 33), .ref (ma 34), .ref (ma 35), .ref (ma 36), .ref (ma 37), .ref (ma 38), .ref (ma 39), .ref (ma 40), .ref (ma 41), .ref (ma 42), .ref (ma 43), .ref (ma 44), .ref (ma 45), .ref (ma 46), .ref (ma 47), .ref (ma 48), .int 0, .int 0, .int 0, .int 0, .int 0, .int 0, .int 0, .int 0, .int 0, .int 0, .ref (ma 59), .ref (ma 60), .int 0, .int 0, .int 0, .int 0, .int 0, .int 0, .ref (ma 67), .ref (ma 68), .ref (ma 69), .int 0, .int (-1), .int 0, .ref (ma 73)])), ((ma 1), .inl (cy 0, 1600, .inl (upd f91 (1 : Int32).toNatClampNeg (vp_nar .byte z100))))] H := hP
      have hD : va_D A [(hm, .inr (12, [.int 0, .ref (ma 1), .int 1, .int (-1), .ref (ma 4), .int 0, .int 0, .int 0, .long 0, .int 0, .int 0, .int 0, .int 0, .long 0, .int 0, .int 0, .int 0, .ref (ma 17), .ref (ma 18), .ref (ma 19), .ref (ma 20), .ref (ma 21), .ref (ma 22), .ref (ma 23), .ref (ma 24), .ref (ma 25), .ref (ma 26), .ref (ma 27), .ref (ma 28), .ref (ma 29), .ref (ma 30), .ref (ma 31), .ref (ma 32), .ref (ma 33), .ref (ma 34), .ref (ma 35), .ref (ma 36), .ref (ma 37), .ref (ma 38), .ref (ma 39), .ref (ma 40), .ref (ma 41), .ref (ma 42), .ref (ma 43), .ref (ma 44), .ref (ma 45), .ref (ma 46), .ref (ma 47), .ref (ma 48), .int 0, .int 0, .int 0, .int 0, .int 0, .int 0, .int 0, .int 0, .int 0, .int 0, .ref (ma 59), .ref (ma 60), .int 0, .int 0, .int 0, .int 0, .int 0, .int 0, .ref (ma 67), .ref (ma 68), .ref (ma 69), .int 0, .int (-1), .int 0, .ref (ma 73)])), ((ma 1), .inl (cy 0, 1600, .inl (upd f91 (1 : Int32).toNatClampNeg (vp_nar .byte z100))))] := hD
      generalize hff102 : (upd f91 (1 : Int32).toNatClampNeg (vp_nar .byte z100)) = f102 at hP hD
      refine lv_aload_n hx hb dX12_feed_62 rfl (lv_at hl 1 rfl) ?_
      refine lv_dup hx hb dX12_feed_63 rfl ?_
      refine va_get (D := D) (ci := 12) (v := .int 1) (C := RX12) (T := TX12) (N := 74) hx hb hT i_TX12 hown hK hP 0 rfl rfl 2 (by decide) (hT _ t_1717) (fun _ h9 => h9) rfl dX12_feed_64 ?_
      refine lv_iconst (v := 1) hx hb dX12_feed_67 (by decide) ?_
      refine lv_iadd hx hb dX12_feed_68 ?_
      refine lv_topi (fun z103 e104 => ?_)
      obtain rfl : z103 = 2 := e104.trans (by first | decide | rfl)
      refine va_put (D := D) (ci := 12) (v := .int 2) (ty := .int) (C := RX12) (T := TX12) (N := 74) hx hb hT i_TX12 tyX12 tyX12_ok nmX12 hown hK hP hD hS 0 rfl rfl 2 (by decide) (hT _ t_1717) (fun _ h9 => h9) rfl (by decide +kernel) rfl rfl (Nat.le_of_ble_eq_true rfl) dX12_feed_69 (fun H locs hP hD hS => ?_)
      have hP : va_P D vwCl [(hm, .inr (12, [.int 0, .ref (ma 1), .int 2, .int (-1), .ref (ma 4), .int 0, .int 0, .int 0, .long 0, .int 0, .int 0, .int 0, .int 0, .long 0, .int 0, .int 0, .int 0, .ref (ma 17), .ref (ma 18), .ref (ma 19), .ref (ma 20), .ref (ma 21), .ref (ma 22), .ref (ma 23), .ref (ma 24), .ref (ma 25), .ref (ma 26), .ref (ma 27), .ref (ma 28), .ref (ma 29), .ref (ma 30), .ref (ma 31), .ref (ma 32), .ref (ma 33), .ref (ma 34), .ref (ma 35), .ref (ma 36), .ref (ma 37), .ref (ma 38), .ref (ma 39), .ref (ma 40), .ref (ma 41), .ref (ma 42), .ref (ma 43), .ref (ma 44), .ref (ma 45), .ref (ma 46), .ref (ma 47), .ref (ma 48), .int 0, .int 0, .int 0, .int 0, .int 0, .int 0, .int 0, .int 0, .int 0, .int 0, .ref (ma 59), .ref (ma 60), .int 0, .int 0, .int 0, .int 0, .int 0, .int 0, .ref (ma 67), .ref (ma 68), .ref (ma 69), .int 0, .int (-1), .int 0, .ref (ma 73)])), ((ma 1), .inl (cy 0, 1600, .inl f102))] H := hP
      have hD : va_D A [(hm, .inr (12, [.int 0, .ref (ma 1), .int 2, .int (-1), .ref (ma 4), .int 0, .int 0, .int 0, .long 0, .int 0, .int 0, .int 0, .int 0, .long 0, .int 0, .int 0, .int 0, .ref (ma 17), .ref (ma 18), .ref (ma 19), .ref (ma 20), .ref (ma 21), .ref (ma 22), .ref (ma 23), .ref (ma 24), .ref (ma 25), .ref (ma 26), .ref (ma 27), .ref (ma 28), .ref (ma 29), .ref (ma 30), .ref (ma 31), .ref (ma 32), .ref (ma 33), .ref (ma 34), .ref (ma 35), .ref (ma 36), .ref (ma 37), .ref (ma 38), .ref (ma 39), .ref (ma 40), .ref (ma 41), .ref (ma 42), .ref (ma 43), .ref (ma 44), .ref (ma 45), .ref (ma 46), .ref (ma 47), .ref (ma 48), .int 0, .int 0, .int 0, .int 0, .int 0, .int 0, .int 0, .int 0, .int 0, .int 0, .ref (ma 59), .ref (ma 60), .int 0, .int 0, .int 0, .int 0, .int 0, .int 0, .ref (ma 67), .ref (ma 68), .ref (ma 69), .int 0, .int (-1), .int 0, .ref (ma 73)])), ((ma 1), .inl (cy 0, 1600, .inl f102))] := hD
      refine lv_iinc (v := 1) (lv' := [(4, .int 1), (0, .ref hm), (1, .long p0), (3, .int (nI 4))]) hx hb dX12_feed_72 hl (k := 0) rfl (by decide) (by decide) rfl (fun ls hl => ?_)
      refine lv_goto (tgt := 39) hx hb dX12_feed_75 (by decide) ?_
      refine lv_iload hx hb dX12_feed_39 (lv_at hl 0 rfl) ?_
      refine lv_if_lt (tgt := 78) hx hb dX12_feed_41 (by decide) (fun c9 => absurd c9 (by decide)) (fun _ => ?_)
      refine lv_aload_n hx hb dX12_feed_44 rfl (lv_at hl 1 rfl) ?_
      refine va_get (D := D) (ci := 12) (v := .ref (ma 1)) (C := RX12) (T := TX12) (N := 74) hx hb hT i_TX12 hown hK hP 0 rfl rfl 1 (by decide) (hT _ t_1716) (fun _ h9 => h9) rfl dX12_feed_45 ?_
      refine lv_aload_n hx hb dX12_feed_48 rfl (lv_at hl 1 rfl) ?_
      refine va_get (D := D) (ci := 12) (v := .int 2) (C := RX12) (T := TX12) (N := 74) hx hb hT i_TX12 hown hK hP 0 rfl rfl 2 (by decide) (hT _ t_1717) (fun _ h9 => h9) rfl dX12_feed_49 ?_
      refine lv_lload_n hx hb dX12_feed_52 rfl (lv_at hl 2 rfl) ?_
      refine lv_bipush (v := 8) hx hb dX12_feed_53 (by decide) ?_
      refine lv_iload hx hb dX12_feed_55 (lv_at hl 0 rfl) ?_
      refine lv_imul hx hb dX12_feed_57 ?_
      refine lv_topi (fun z105 e106 => ?_)
      obtain rfl : z105 = 8 := e106.trans (by first | decide | rfl)
      refine lv_lshr hx hb dX12_feed_58 rfl ?_
      refine lv_topl (fun z107 e108 => ?_)
      refine lv_l2i hx hb dX12_feed_59 rfl ?_
      refine lv_topi (fun z109 e110 => ?_)
      refine lv_i2b hx hb dX12_feed_60 rfl ?_
      refine lv_topi (fun z111 e112 => ?_)
      refine va_bast hx hb hK hP hD hS 1 0 rfl rfl (vp_in_iff.mpr (by decide)) dX12_feed_61 (fun H locs hP hD hS => ?_)
      have hP : va_P D vwCl [(hm, .inr (12, [.int 0, .ref (ma 1), .int 2, .int (-1), .ref (ma 4), .int 0, .int 0, .int 0, .long 0, .int 0, .int 0, .int 0, .int 0, .long 0, .int 0, .int 0, .int 0, .ref (ma 17), .ref (ma 18), .ref (ma 19), .ref (ma 20), .ref (ma 21), .ref (ma 22), .ref (ma 23), .ref (ma 24), .ref (ma 25), .ref (ma 26), .ref (ma 27), .ref (ma 28), .ref (ma 29), .ref (ma 30), .ref (ma 31), .ref (ma 32), .ref (ma 33), .ref (ma 34), .ref (ma 35), .ref (ma 36), .ref (ma 37), .ref (ma 38), .ref (ma 39), .ref (ma 40), .ref (ma 41), .ref (ma 42), .ref (ma 43), .ref (ma 44), .ref (ma 45), .ref (ma 46), .ref (ma 47), .ref (ma 48), .int 0, .int 0, .int 0, .int 0, .int 0, .int 0, .int 0, .int 0, .int 0, .int 0, .ref (ma 59), .ref (ma 60), .int 0, .int 0, .int 0, .int 0, .int 0, .int 0, .ref (ma 67), .ref (ma 68), .ref (ma 69), .int 0, .int (-1), .int 0, .ref (ma 73)])), ((ma 1), .inl (cy 0, 1600, .inl (upd f102 (2 : Int32).toNatClampNeg (vp_nar .byte z111))))] H := hP
      have hD : va_D A [(hm, .inr (12, [.int 0, .ref (ma 1), .int 2, .int (-1), .ref (ma 4), .int 0, .int 0, .int 0, .long 0, .int 0, .int 0, .int 0, .int 0, .long 0, .int 0, .int 0, .int 0, .ref (ma 17), .ref (ma 18), .ref (ma 19), .ref (ma 20), .ref (ma 21), .ref (ma 22), .ref (ma 23), .ref (ma 24), .ref (ma 25), .ref (ma 26), .ref (ma 27), .ref (ma 28), .ref (ma 29), .ref (ma 30), .ref (ma 31), .ref (ma 32), .ref (ma 33), .ref (ma 34), .ref (ma 35), .ref (ma 36), .ref (ma 37), .ref (ma 38), .ref (ma 39), .ref (ma 40), .ref (ma 41), .ref (ma 42), .ref (ma 43), .ref (ma 44), .ref (ma 45), .ref (ma 46), .ref (ma 47), .ref (ma 48), .int 0, .int 0, .int 0, .int 0, .int 0, .int 0, .int 0, .int 0, .int 0, .int 0, .ref (ma 59), .ref (ma 60), .int 0, .int 0, .int 0, .int 0, .int 0, .int 0, .ref (ma 67), .ref (ma 68), .ref (ma 69), .int 0, .int (-1), .int 0, .ref (ma 73)])), ((ma 1), .inl (cy 0, 1600, .inl (upd f102 (2 : Int32).toNatClampNeg (vp_nar .byte z111))))] := hD
      generalize hff113 : (upd f102 (2 : Int32).toNatClampNeg (vp_nar .byte z111)) = f113 at hP hD
      refine lv_aload_n hx hb dX12_feed_62 rfl (lv_at hl 1 rfl) ?_
      refine lv_dup hx hb dX12_feed_63 rfl ?_
      refine va_get (D := D) (ci := 12) (v := .int 2) (C := RX12) (T := TX12) (N := 74) hx hb hT i_TX12 hown hK hP 0 rfl rfl 2 (by decide) (hT _ t_1717) (fun _ h9 => h9) rfl dX12_feed_64 ?_
      refine lv_iconst (v := 1) hx hb dX12_feed_67 (by decide) ?_
      refine lv_iadd hx hb dX12_feed_68 ?_
      refine lv_topi (fun z114 e115 => ?_)
      obtain rfl : z114 = 3 := e115.trans (by first | decide | rfl)
      refine va_put (D := D) (ci := 12) (v := .int 3) (ty := .int) (C := RX12) (T := TX12) (N := 74) hx hb hT i_TX12 tyX12 tyX12_ok nmX12 hown hK hP hD hS 0 rfl rfl 2 (by decide) (hT _ t_1717) (fun _ h9 => h9) rfl (by decide +kernel) rfl rfl (Nat.le_of_ble_eq_true rfl) dX12_feed_69 (fun H locs hP hD hS => ?_)
      have hP : va_P D vwCl [(hm, .inr (12, [.int 0, .ref (ma 1), .int 3, .int (-1), .ref (ma 4), .int 0, .int 0, .int 0, .long 0, .int 0, .int 0, .int 0, .int 0, .long 0, .int 0, .int 0, .int 0, .ref (ma 17), .ref (ma 18), .ref (ma 19), .ref (ma 20), .ref (ma 21), .ref (ma 22), .ref (ma 23), .ref (ma 24), .ref (ma 25), .ref (ma 26), .ref (ma 27), .ref (ma 28), .ref (ma 29), .ref (ma 30), .ref (ma 31), .ref (ma 32), .ref (ma 33), .ref (ma 34), .ref (ma 35), .ref (ma 36), .ref (ma 37), .ref (ma 38), .ref (ma 39), .ref (ma 40), .ref (ma 41), .ref (ma 42), .ref (ma 43), .ref (ma 44), .ref (ma 45), .ref (ma 46), .ref (ma 47), .ref (ma 48), .int 0, .int 0, .int 0, .int 0, .int 0, .int 0, .int 0, .int 0, .int 0, .int 0, .ref (ma 59), .ref (ma 60), .int 0, .int 0, .int 0, .int 0, .int 0, .int 0, .ref (ma 67), .ref (ma 68), .ref (ma 69), .int 0, .int (-1), .int 0, .ref (ma 73)])), ((ma 1), .inl (cy 0, 1600, .inl f113))] H := hP
      have hD : va_D A [(hm, .inr (12, [.int 0, .ref (ma 1), .int 3, .int (-1), .ref (ma 4), .int 0, .int 0, .int 0, .long 0, .int 0, .int 0, .int 0, .int 0, .long 0, .int 0, .int 0, .int 0, .ref (ma 17), .ref (ma 18), .ref (ma 19), .ref (ma 20), .ref (ma 21), .ref (ma 22), .ref (ma 23), .ref (ma 24), .ref (ma 25), .ref (ma 26), .ref (ma 27), .ref (ma 28), .ref (ma 29), .ref (ma 30), .ref (ma 31), .ref (ma 32), .ref (ma 33), .ref (ma 34), .ref (ma 35), .ref (ma 36), .ref (ma 37), .ref (ma 38), .ref (ma 39), .ref (ma 40), .ref (ma 41), .ref (ma 42), .ref (ma 43), .ref (ma 44), .ref (ma 45), .ref (ma 46), .ref (ma 47), .ref (ma 48), .int 0, .int 0, .int 0, .int 0, .int 0, .int 0, .int 0, .int 0, .int 0, .int 0, .ref (ma 59), .ref (ma 60), .int 0, .int 0, .int 0, .int 0, .int 0, .int 0, .ref (ma 67), .ref (ma 68), .ref (ma 69), .int 0, .int (-1), .int 0, .ref (ma 73)])), ((ma 1), .inl (cy 0, 1600, .inl f113))] := hD
      refine lv_iinc (v := 0) (lv' := [(4, .int 0), (0, .ref hm), (1, .long p0), (3, .int (nI 4))]) hx hb dX12_feed_72 hl (k := 0) rfl (by decide) (by decide) rfl (fun ls hl => ?_)
      refine lv_goto (tgt := 39) hx hb dX12_feed_75 (by decide) ?_
      refine lv_iload hx hb dX12_feed_39 (lv_at hl 0 rfl) ?_
      refine lv_if_lt (tgt := 78) hx hb dX12_feed_41 (by decide) (fun c9 => absurd c9 (by decide)) (fun _ => ?_)
      refine lv_aload_n hx hb dX12_feed_44 rfl (lv_at hl 1 rfl) ?_
      refine va_get (D := D) (ci := 12) (v := .ref (ma 1)) (C := RX12) (T := TX12) (N := 74) hx hb hT i_TX12 hown hK hP 0 rfl rfl 1 (by decide) (hT _ t_1716) (fun _ h9 => h9) rfl dX12_feed_45 ?_
      refine lv_aload_n hx hb dX12_feed_48 rfl (lv_at hl 1 rfl) ?_
      refine va_get (D := D) (ci := 12) (v := .int 3) (C := RX12) (T := TX12) (N := 74) hx hb hT i_TX12 hown hK hP 0 rfl rfl 2 (by decide) (hT _ t_1717) (fun _ h9 => h9) rfl dX12_feed_49 ?_
      refine lv_lload_n hx hb dX12_feed_52 rfl (lv_at hl 2 rfl) ?_
      refine lv_bipush (v := 8) hx hb dX12_feed_53 (by decide) ?_
      refine lv_iload hx hb dX12_feed_55 (lv_at hl 0 rfl) ?_
      refine lv_imul hx hb dX12_feed_57 ?_
      refine lv_topi (fun z116 e117 => ?_)
      obtain rfl : z116 = 0 := e117.trans (by first | decide | rfl)
      refine lv_lshr hx hb dX12_feed_58 rfl ?_
      refine lv_topl (fun z118 e119 => ?_)
      refine lv_l2i hx hb dX12_feed_59 rfl ?_
      refine lv_topi (fun z120 e121 => ?_)
      refine lv_i2b hx hb dX12_feed_60 rfl ?_
      refine lv_topi (fun z122 e123 => ?_)
      refine va_bast hx hb hK hP hD hS 1 0 rfl rfl (vp_in_iff.mpr (by decide)) dX12_feed_61 (fun H locs hP hD hS => ?_)
      have hP : va_P D vwCl [(hm, .inr (12, [.int 0, .ref (ma 1), .int 3, .int (-1), .ref (ma 4), .int 0, .int 0, .int 0, .long 0, .int 0, .int 0, .int 0, .int 0, .long 0, .int 0, .int 0, .int 0, .ref (ma 17), .ref (ma 18), .ref (ma 19), .ref (ma 20), .ref (ma 21), .ref (ma 22), .ref (ma 23), .ref (ma 24), .ref (ma 25), .ref (ma 26), .ref (ma 27), .ref (ma 28), .ref (ma 29), .ref (ma 30), .ref (ma 31), .ref (ma 32), .ref (ma 33), .ref (ma 34), .ref (ma 35), .ref (ma 36), .ref (ma 37), .ref (ma 38), .ref (ma 39), .ref (ma 40), .ref (ma 41), .ref (ma 42), .ref (ma 43), .ref (ma 44), .ref (ma 45), .ref (ma 46), .ref (ma 47), .ref (ma 48), .int 0, .int 0, .int 0, .int 0, .int 0, .int 0, .int 0, .int 0, .int 0, .int 0, .ref (ma 59), .ref (ma 60), .int 0, .int 0, .int 0, .int 0, .int 0, .int 0, .ref (ma 67), .ref (ma 68), .ref (ma 69), .int 0, .int (-1), .int 0, .ref (ma 73)])), ((ma 1), .inl (cy 0, 1600, .inl (upd f113 (3 : Int32).toNatClampNeg (vp_nar .byte z122))))] H := hP
      have hD : va_D A [(hm, .inr (12, [.int 0, .ref (ma 1), .int 3, .int (-1), .ref (ma 4), .int 0, .int 0, .int 0, .long 0, .int 0, .int 0, .int 0, .int 0, .long 0, .int 0, .int 0, .int 0, .ref (ma 17), .ref (ma 18), .ref (ma 19), .ref (ma 20), .ref (ma 21), .ref (ma 22), .ref (ma 23), .ref (ma 24), .ref (ma 25), .ref (ma 26), .ref (ma 27), .ref (ma 28), .ref (ma 29), .ref (ma 30), .ref (ma 31), .ref (ma 32), .ref (ma 33), .ref (ma 34), .ref (ma 35), .ref (ma 36), .ref (ma 37), .ref (ma 38), .ref (ma 39), .ref (ma 40), .ref (ma 41), .ref (ma 42), .ref (ma 43), .ref (ma 44), .ref (ma 45), .ref (ma 46), .ref (ma 47), .ref (ma 48), .int 0, .int 0, .int 0, .int 0, .int 0, .int 0, .int 0, .int 0, .int 0, .int 0, .ref (ma 59), .ref (ma 60), .int 0, .int 0, .int 0, .int 0, .int 0, .int 0, .ref (ma 67), .ref (ma 68), .ref (ma 69), .int 0, .int (-1), .int 0, .ref (ma 73)])), ((ma 1), .inl (cy 0, 1600, .inl (upd f113 (3 : Int32).toNatClampNeg (vp_nar .byte z122))))] := hD
      generalize hff124 : (upd f113 (3 : Int32).toNatClampNeg (vp_nar .byte z122)) = f124 at hP hD
      refine lv_aload_n hx hb dX12_feed_62 rfl (lv_at hl 1 rfl) ?_
      refine lv_dup hx hb dX12_feed_63 rfl ?_
      refine va_get (D := D) (ci := 12) (v := .int 3) (C := RX12) (T := TX12) (N := 74) hx hb hT i_TX12 hown hK hP 0 rfl rfl 2 (by decide) (hT _ t_1717) (fun _ h9 => h9) rfl dX12_feed_64 ?_
      refine lv_iconst (v := 1) hx hb dX12_feed_67 (by decide) ?_
      refine lv_iadd hx hb dX12_feed_68 ?_
      refine lv_topi (fun z125 e126 => ?_)
      obtain rfl : z125 = 4 := e126.trans (by first | decide | rfl)
      refine va_put (D := D) (ci := 12) (v := .int 4) (ty := .int) (C := RX12) (T := TX12) (N := 74) hx hb hT i_TX12 tyX12 tyX12_ok nmX12 hown hK hP hD hS 0 rfl rfl 2 (by decide) (hT _ t_1717) (fun _ h9 => h9) rfl (by decide +kernel) rfl rfl (Nat.le_of_ble_eq_true rfl) dX12_feed_69 (fun H locs hP hD hS => ?_)
      have hP : va_P D vwCl [(hm, .inr (12, [.int 0, .ref (ma 1), .int 4, .int (-1), .ref (ma 4), .int 0, .int 0, .int 0, .long 0, .int 0, .int 0, .int 0, .int 0, .long 0, .int 0, .int 0, .int 0, .ref (ma 17), .ref (ma 18), .ref (ma 19), .ref (ma 20), .ref (ma 21), .ref (ma 22), .ref (ma 23), .ref (ma 24), .ref (ma 25), .ref (ma 26), .ref (ma 27), .ref (ma 28), .ref (ma 29), .ref (ma 30), .ref (ma 31), .ref (ma 32), .ref (ma 33), .ref (ma 34), .ref (ma 35), .ref (ma 36), .ref (ma 37), .ref (ma 38), .ref (ma 39), .ref (ma 40), .ref (ma 41), .ref (ma 42), .ref (ma 43), .ref (ma 44), .ref (ma 45), .ref (ma 46), .ref (ma 47), .ref (ma 48), .int 0, .int 0, .int 0, .int 0, .int 0, .int 0, .int 0, .int 0, .int 0, .int 0, .ref (ma 59), .ref (ma 60), .int 0, .int 0, .int 0, .int 0, .int 0, .int 0, .ref (ma 67), .ref (ma 68), .ref (ma 69), .int 0, .int (-1), .int 0, .ref (ma 73)])), ((ma 1), .inl (cy 0, 1600, .inl f124))] H := hP
      have hD : va_D A [(hm, .inr (12, [.int 0, .ref (ma 1), .int 4, .int (-1), .ref (ma 4), .int 0, .int 0, .int 0, .long 0, .int 0, .int 0, .int 0, .int 0, .long 0, .int 0, .int 0, .int 0, .ref (ma 17), .ref (ma 18), .ref (ma 19), .ref (ma 20), .ref (ma 21), .ref (ma 22), .ref (ma 23), .ref (ma 24), .ref (ma 25), .ref (ma 26), .ref (ma 27), .ref (ma 28), .ref (ma 29), .ref (ma 30), .ref (ma 31), .ref (ma 32), .ref (ma 33), .ref (ma 34), .ref (ma 35), .ref (ma 36), .ref (ma 37), .ref (ma 38), .ref (ma 39), .ref (ma 40), .ref (ma 41), .ref (ma 42), .ref (ma 43), .ref (ma 44), .ref (ma 45), .ref (ma 46), .ref (ma 47), .ref (ma 48), .int 0, .int 0, .int 0, .int 0, .int 0, .int 0, .int 0, .int 0, .int 0, .int 0, .ref (ma 59), .ref (ma 60), .int 0, .int 0, .int 0, .int 0, .int 0, .int 0, .ref (ma 67), .ref (ma 68), .ref (ma 69), .int 0, .int (-1), .int 0, .ref (ma 73)])), ((ma 1), .inl (cy 0, 1600, .inl f124))] := hD
      refine lv_iinc (v := (-1)) (lv' := [(4, .int (-1)), (0, .ref hm), (1, .long p0), (3, .int (nI 4))]) hx hb dX12_feed_72 hl (k := 0) rfl (by decide) (by decide) rfl (fun ls hl => ?_)
      refine lv_goto (tgt := 39) hx hb dX12_feed_75 (by decide) ?_
      refine lv_iload hx hb dX12_feed_39 (lv_at hl 0 rfl) ?_
      refine lv_if_lt (tgt := 78) hx hb dX12_feed_41 (by decide) (fun _ => ?_) (fun c9 => absurd (by decide) c9)
      refine lv_aload_n hx hb dX12_feed_78 rfl (lv_at hl 1 rfl) ?_
      refine va_get (D := D) (ci := 12) (v := .int 4) (C := RX12) (T := TX12) (N := 74) hx hb hT i_TX12 hown hK hP 0 rfl rfl 2 (by decide) (hT _ t_1717) (fun _ h9 => h9) rfl dX12_feed_79 ?_
      have hP9 := hP.sub (ws' := []) [] rfl
      have hD9 := hD.sub (ws' := []) [] (by decide) rfl
      refine W.widen (k := 0) (n := 0) (Nat.le_of_ble_eq_true rfl) (Nat.le_of_ble_eq_true rfl) ?_
      exact W.iret (v := 4) hx hb hr (fun t ht hW => ⟨⟨4, (), rfl, (by decide), by rw [ht]; exact hP9, hD9⟩, hS.F ht⟩) hS.2.2 dX12_feed_82
    · refine lv_aload_n hx hb dX12_feed_0 rfl (lv_at hl 0 rfl) ?_
      refine lv_iconst (v := 0) hx hb dX12_feed_1 (by decide) ?_
      refine va_put (D := D) (ci := 12) (v := .int 0) (ty := .int) (C := RX12) (T := TX12) (N := 74) hx hb hT i_TX12 tyX12 tyX12_ok nmX12 hown hK hP hD hS 0 rfl rfl 0 (by decide) (hT _ t_1715) (fun _ h9 => h9) rfl (by decide +kernel) rfl rfl (Nat.le_of_ble_eq_true rfl) dX12_feed_2 (fun H locs hP hD hS => ?_)
      have hP : va_P D vwCl [(hm, .inr (12, [.int 0, .ref (ma 1), .int 0, .int (-1), .ref (ma 4), .int 0, .int 0, .int 0, .long 0, .int 0, .int 0, .int 0, .int 0, .long 0, .int 0, .int 0, .int 0, .ref (ma 17), .ref (ma 18), .ref (ma 19), .ref (ma 20), .ref (ma 21), .ref (ma 22), .ref (ma 23), .ref (ma 24), .ref (ma 25), .ref (ma 26), .ref (ma 27), .ref (ma 28), .ref (ma 29), .ref (ma 30), .ref (ma 31), .ref (ma 32), .ref (ma 33), .ref (ma 34), .ref (ma 35), .ref (ma 36), .ref (ma 37), .ref (ma 38), .ref (ma 39), .ref (ma 40), .ref (ma 41), .ref (ma 42), .ref (ma 43), .ref (ma 44), .ref (ma 45), .ref (ma 46), .ref (ma 47), .ref (ma 48), .int 0, .int 0, .int 0, .int 0, .int 0, .int 0, .int 0, .int 0, .int 0, .int 0, .ref (ma 59), .ref (ma 60), .int 0, .int 0, .int 0, .int 0, .int 0, .int 0, .ref (ma 67), .ref (ma 68), .ref (ma 69), .int 0, .int (-1), .int 0, .ref (ma 73)])), ((ma 1), .inl (cy 0, 1600, .inl (fun _ => 0)))] H := hP
      have hD : va_D A [(hm, .inr (12, [.int 0, .ref (ma 1), .int 0, .int (-1), .ref (ma 4), .int 0, .int 0, .int 0, .long 0, .int 0, .int 0, .int 0, .int 0, .long 0, .int 0, .int 0, .int 0, .ref (ma 17), .ref (ma 18), .ref (ma 19), .ref (ma 20), .ref (ma 21), .ref (ma 22), .ref (ma 23), .ref (ma 24), .ref (ma 25), .ref (ma 26), .ref (ma 27), .ref (ma 28), .ref (ma 29), .ref (ma 30), .ref (ma 31), .ref (ma 32), .ref (ma 33), .ref (ma 34), .ref (ma 35), .ref (ma 36), .ref (ma 37), .ref (ma 38), .ref (ma 39), .ref (ma 40), .ref (ma 41), .ref (ma 42), .ref (ma 43), .ref (ma 44), .ref (ma 45), .ref (ma 46), .ref (ma 47), .ref (ma 48), .int 0, .int 0, .int 0, .int 0, .int 0, .int 0, .int 0, .int 0, .int 0, .int 0, .ref (ma 59), .ref (ma 60), .int 0, .int 0, .int 0, .int 0, .int 0, .int 0, .ref (ma 67), .ref (ma 68), .ref (ma 69), .int 0, .int (-1), .int 0, .ref (ma 73)])), ((ma 1), .inl (cy 0, 1600, .inl (fun _ => 0)))] := hD
      refine lv_iload_n hx hb dX12_feed_5 rfl (lv_at hl 2 rfl) ?_
      refine lv_iconst (v := 1) hx hb dX12_feed_6 (by decide) ?_
      refine lv_icmp_lt (tgt := 16) hx hb dX12_feed_7 (by decide) (fun c9 => absurd c9 (by decide)) (fun _ => ?_)
      refine lv_iload_n hx hb dX12_feed_10 rfl (lv_at hl 2 rfl) ?_
      refine lv_bipush (v := 8) hx hb dX12_feed_11 (by decide) ?_
      refine lv_icmp_le (tgt := 19) hx hb dX12_feed_13 (by decide) (fun _ => ?_) (fun c9 => absurd (by decide) c9)
      refine lv_aload_n hx hb dX12_feed_19 rfl (lv_at hl 0 rfl) ?_
      refine va_get (D := D) (ci := 12) (v := .int 0) (C := RX12) (T := TX12) (N := 74) hx hb hT i_TX12 hown hK hP 0 rfl rfl 2 (by decide) (hT _ t_1717) (fun _ h9 => h9) rfl dX12_feed_20 ?_
      refine lv_iload_n hx hb dX12_feed_23 rfl (lv_at hl 2 rfl) ?_
      refine lv_iadd hx hb dX12_feed_24 ?_
      refine lv_topi (fun z127 e128 => ?_)
      obtain rfl : z127 = 5 := e128.trans (by first | decide | rfl)
      refine lv_sipush (v := 1600) hx hb dX12_feed_25 (by decide) ?_
      refine lv_icmp_le (tgt := 34) hx hb dX12_feed_28 (by decide) (fun _ => ?_) (fun c9 => absurd (by decide) c9)
      refine lv_iload_n hx hb dX12_feed_34 rfl (lv_at hl 2 rfl) ?_
      refine lv_iconst (v := 1) hx hb dX12_feed_35 (by decide) ?_
      refine lv_isub hx hb dX12_feed_36 ?_
      refine lv_topi (fun z129 e130 => ?_)
      obtain rfl : z129 = 4 := e130.trans (by first | decide | rfl)
      refine lv_istore (lv' := [(4, .int 4), (0, .ref hm), (1, .long p0), (3, .int (nI 5))]) hx hb dX12_feed_37 hl (by decide) rfl (fun ls hl => ?_)
      refine lv_iload hx hb dX12_feed_39 (lv_at hl 0 rfl) ?_
      refine lv_if_lt (tgt := 78) hx hb dX12_feed_41 (by decide) (fun c9 => absurd c9 (by decide)) (fun _ => ?_)
      refine lv_aload_n hx hb dX12_feed_44 rfl (lv_at hl 1 rfl) ?_
      refine va_get (D := D) (ci := 12) (v := .ref (ma 1)) (C := RX12) (T := TX12) (N := 74) hx hb hT i_TX12 hown hK hP 0 rfl rfl 1 (by decide) (hT _ t_1716) (fun _ h9 => h9) rfl dX12_feed_45 ?_
      refine lv_aload_n hx hb dX12_feed_48 rfl (lv_at hl 1 rfl) ?_
      refine va_get (D := D) (ci := 12) (v := .int 0) (C := RX12) (T := TX12) (N := 74) hx hb hT i_TX12 hown hK hP 0 rfl rfl 2 (by decide) (hT _ t_1717) (fun _ h9 => h9) rfl dX12_feed_49 ?_
      refine lv_lload_n hx hb dX12_feed_52 rfl (lv_at hl 2 rfl) ?_
      refine lv_bipush (v := 8) hx hb dX12_feed_53 (by decide) ?_
      refine lv_iload hx hb dX12_feed_55 (lv_at hl 0 rfl) ?_
      refine lv_imul hx hb dX12_feed_57 ?_
      refine lv_topi (fun z131 e132 => ?_)
      obtain rfl : z131 = 32 := e132.trans (by first | decide | rfl)
      refine lv_lshr hx hb dX12_feed_58 rfl ?_
      refine lv_topl (fun z133 e134 => ?_)
      refine lv_l2i hx hb dX12_feed_59 rfl ?_
      refine lv_topi (fun z135 e136 => ?_)
      refine lv_i2b hx hb dX12_feed_60 rfl ?_
      refine lv_topi (fun z137 e138 => ?_)
      refine va_bast hx hb hK hP hD hS 1 0 rfl rfl (vp_in_iff.mpr (by decide)) dX12_feed_61 (fun H locs hP hD hS => ?_)
      have hP : va_P D vwCl [(hm, .inr (12, [.int 0, .ref (ma 1), .int 0, .int (-1), .ref (ma 4), .int 0, .int 0, .int 0, .long 0, .int 0, .int 0, .int 0, .int 0, .long 0, .int 0, .int 0, .int 0, .ref (ma 17), .ref (ma 18), .ref (ma 19), .ref (ma 20), .ref (ma 21), .ref (ma 22), .ref (ma 23), .ref (ma 24), .ref (ma 25), .ref (ma 26), .ref (ma 27), .ref (ma 28), .ref (ma 29), .ref (ma 30), .ref (ma 31), .ref (ma 32), .ref (ma 33), .ref (ma 34), .ref (ma 35), .ref (ma 36), .ref (ma 37), .ref (ma 38), .ref (ma 39), .ref (ma 40), .ref (ma 41), .ref (ma 42), .ref (ma 43), .ref (ma 44), .ref (ma 45), .ref (ma 46), .ref (ma 47), .ref (ma 48), .int 0, .int 0, .int 0, .int 0, .int 0, .int 0, .int 0, .int 0, .int 0, .int 0, .ref (ma 59), .ref (ma 60), .int 0, .int 0, .int 0, .int 0, .int 0, .int 0, .ref (ma 67), .ref (ma 68), .ref (ma 69), .int 0, .int (-1), .int 0, .ref (ma 73)])), ((ma 1), .inl (cy 0, 1600, .inl (upd (fun _ => 0) (0 : Int32).toNatClampNeg (vp_nar .byte z137))))] H := hP
      have hD : va_D A [(hm, .inr (12, [.int 0, .ref (ma 1), .int 0, .int (-1), .ref (ma 4), .int 0, .int 0, .int 0, .long 0, .int 0, .int 0, .int 0, .int 0, .long 0, .int 0, .int 0, .int 0, .ref (ma 17), .ref (ma 18), .ref (ma 19), .ref (ma 20), .ref (ma 21), .ref (ma 22), .ref (ma 23), .ref (ma 24), .ref (ma 25), .ref (ma 26), .ref (ma 27), .ref (ma 28), .ref (ma 29), .ref (ma 30), .ref (ma 31), .ref (ma 32), .ref (ma 33), .ref (ma 34), .ref (ma 35), .ref (ma 36), .ref (ma 37), .ref (ma 38), .ref (ma 39), .ref (ma 40), .ref (ma 41), .ref (ma 42), .ref (ma 43), .ref (ma 44), .ref (ma 45), .ref (ma 46), .ref (ma 47), .ref (ma 48), .int 0, .int 0, .int 0, .int 0, .int 0, .int 0, .int 0, .int 0, .int 0, .int 0, .ref (ma 59), .ref (ma 60), .int 0, .int 0, .int 0, .int 0, .int 0, .int 0, .ref (ma 67), .ref (ma 68), .ref (ma 69), .int 0, .int (-1), .int 0, .ref (ma 73)])), ((ma 1), .inl (cy 0, 1600, .inl (upd (fun _ => 0) (0 : Int32).toNatClampNeg (vp_nar .byte z137))))] := hD
      generalize hff139 : (upd (fun _ => 0) (0 : Int32).toNatClampNeg (vp_nar .byte z137)) = f139 at hP hD
      refine lv_aload_n hx hb dX12_feed_62 rfl (lv_at hl 1 rfl) ?_
      refine lv_dup hx hb dX12_feed_63 rfl ?_
      refine va_get (D := D) (ci := 12) (v := .int 0) (C := RX12) (T := TX12) (N := 74) hx hb hT i_TX12 hown hK hP 0 rfl rfl 2 (by decide) (hT _ t_1717) (fun _ h9 => h9) rfl dX12_feed_64 ?_
      refine lv_iconst (v := 1) hx hb dX12_feed_67 (by decide) ?_
      refine lv_iadd hx hb dX12_feed_68 ?_
      refine lv_topi (fun z140 e141 => ?_)
      obtain rfl : z140 = 1 := e141.trans (by first | decide | rfl)
      refine va_put (D := D) (ci := 12) (v := .int 1) (ty := .int) (C := RX12) (T := TX12) (N := 74) hx hb hT i_TX12 tyX12 tyX12_ok nmX12 hown hK hP hD hS 0 rfl rfl 2 (by decide) (hT _ t_1717) (fun _ h9 => h9) rfl (by decide +kernel) rfl rfl (Nat.le_of_ble_eq_true rfl) dX12_feed_69 (fun H locs hP hD hS => ?_)
      have hP : va_P D vwCl [(hm, .inr (12, [.int 0, .ref (ma 1), .int 1, .int (-1), .ref (ma 4), .int 0, .int 0, .int 0, .long 0, .int 0, .int 0, .int 0, .int 0, .long 0, .int 0, .int 0, .int 0, .ref (ma 17), .ref (ma 18), .ref (ma 19), .ref (ma 20), .ref (ma 21), .ref (ma 22), .ref (ma 23), .ref (ma 24), .ref (ma 25), .ref (ma 26), .ref (ma 27), .ref (ma 28), .ref (ma 29), .ref (ma 30), .ref (ma 31), .ref (ma 32), .ref (ma 33), .ref (ma 34), .ref (ma 35), .ref (ma 36), .ref (ma 37), .ref (ma 38), .ref (ma 39), .ref (ma 40), .ref (ma 41), .ref (ma 42), .ref (ma 43), .ref (ma 44), .ref (ma 45), .ref (ma 46), .ref (ma 47), .ref (ma 48), .int 0, .int 0, .int 0, .int 0, .int 0, .int 0, .int 0, .int 0, .int 0, .int 0, .ref (ma 59), .ref (ma 60), .int 0, .int 0, .int 0, .int 0, .int 0, .int 0, .ref (ma 67), .ref (ma 68), .ref (ma 69), .int 0, .int (-1), .int 0, .ref (ma 73)])), ((ma 1), .inl (cy 0, 1600, .inl f139))] H := hP
      have hD : va_D A [(hm, .inr (12, [.int 0, .ref (ma 1), .int 1, .int (-1), .ref (ma 4), .int 0, .int 0, .int 0, .long 0, .int 0, .int 0, .int 0, .int 0, .long 0, .int 0, .int 0, .int 0, .ref (ma 17), .ref (ma 18), .ref (ma 19), .ref (ma 20), .ref (ma 21), .ref (ma 22), .ref (ma 23), .ref (ma 24), .ref (ma 25), .ref (ma 26), .ref (ma 27), .ref (ma 28), .ref (ma 29), .ref (ma 30), .ref (ma 31), .ref (ma 32), .ref (ma 33), .ref (ma 34), .ref (ma 35), .ref (ma 36), .ref (ma 37), .ref (ma 38), .ref (ma 39), .ref (ma 40), .ref (ma 41), .ref (ma 42), .ref (ma 43), .ref (ma 44), .ref (ma 45), .ref (ma 46), .ref (ma 47), .ref (ma 48), .int 0, .int 0, .int 0, .int 0, .int 0, .int 0, .int 0, .int 0, .int 0, .int 0, .ref (ma 59), .ref (ma 60), .int 0, .int 0, .int 0, .int 0, .int 0, .int 0, .ref (ma 67), .ref (ma 68), .ref (ma 69), .int 0, .int (-1), .int 0, .ref (ma 73)])), ((ma 1), .inl (cy 0, 1600, .inl f139))] := hD
      refine lv_iinc (v := 3) (lv' := [(4, .int 3), (0, .ref hm), (1, .long p0), (3, .int (nI 5))]) hx hb dX12_feed_72 hl (k := 0) rfl (by decide) (by decide) rfl (fun ls hl => ?_)
      refine lv_goto (tgt := 39) hx hb dX12_feed_75 (by decide) ?_
      refine lv_iload hx hb dX12_feed_39 (lv_at hl 0 rfl) ?_
      refine lv_if_lt (tgt := 78) hx hb dX12_feed_41 (by decide) (fun c9 => absurd c9 (by decide)) (fun _ => ?_)
      refine lv_aload_n hx hb dX12_feed_44 rfl (lv_at hl 1 rfl) ?_
      refine va_get (D := D) (ci := 12) (v := .ref (ma 1)) (C := RX12) (T := TX12) (N := 74) hx hb hT i_TX12 hown hK hP 0 rfl rfl 1 (by decide) (hT _ t_1716) (fun _ h9 => h9) rfl dX12_feed_45 ?_
      refine lv_aload_n hx hb dX12_feed_48 rfl (lv_at hl 1 rfl) ?_
      refine va_get (D := D) (ci := 12) (v := .int 1) (C := RX12) (T := TX12) (N := 74) hx hb hT i_TX12 hown hK hP 0 rfl rfl 2 (by decide) (hT _ t_1717) (fun _ h9 => h9) rfl dX12_feed_49 ?_
      refine lv_lload_n hx hb dX12_feed_52 rfl (lv_at hl 2 rfl) ?_
      refine lv_bipush (v := 8) hx hb dX12_feed_53 (by decide) ?_
      refine lv_iload hx hb dX12_feed_55 (lv_at hl 0 rfl) ?_
      refine lv_imul hx hb dX12_feed_57 ?_
      refine lv_topi (fun z142 e143 => ?_)
      obtain rfl : z142 = 24 := e143.trans (by first | decide | rfl)
      refine lv_lshr hx hb dX12_feed_58 rfl ?_
      refine lv_topl (fun z144 e145 => ?_)
      refine lv_l2i hx hb dX12_feed_59 rfl ?_
      refine lv_topi (fun z146 e147 => ?_)
      refine lv_i2b hx hb dX12_feed_60 rfl ?_
      refine lv_topi (fun z148 e149 => ?_)
      refine va_bast hx hb hK hP hD hS 1 0 rfl rfl (vp_in_iff.mpr (by decide)) dX12_feed_61 (fun H locs hP hD hS => ?_)
      have hP : va_P D vwCl [(hm, .inr (12, [.int 0, .ref (ma 1), .int 1, .int (-1), .ref (ma 4), .int 0, .int 0, .int 0, .long 0, .int 0, .int 0, .int 0, .int 0, .long 0, .int 0, .int 0, .int 0, .ref (ma 17), .ref (ma 18), .ref (ma 19), .ref (ma 20), .ref (ma 21), .ref (ma 22), .ref (ma 23), .ref (ma 24), .ref (ma 25), .ref (ma 26), .ref (ma 27), .ref (ma 28), .ref (ma 29), .ref (ma 30), .ref (ma 31), .ref (ma 32), .ref (ma 33), .ref (ma 34), .ref (ma 35), .ref (ma 36), .ref (ma 37), .ref (ma 38), .ref (ma 39), .ref (ma 40), .ref (ma 41), .ref (ma 42), .ref (ma 43), .ref (ma 44), .ref (ma 45), .ref (ma 46), .ref (ma 47), .ref (ma 48), .int 0, .int 0, .int 0, .int 0, .int 0, .int 0, .int 0, .int 0, .int 0, .int 0, .ref (ma 59), .ref (ma 60), .int 0, .int 0, .int 0, .int 0, .int 0, .int 0, .ref (ma 67), .ref (ma 68), .ref (ma 69), .int 0, .int (-1), .int 0, .ref (ma 73)])), ((ma 1), .inl (cy 0, 1600, .inl (upd f139 (1 : Int32).toNatClampNeg (vp_nar .byte z148))))] H := hP
      have hD : va_D A [(hm, .inr (12, [.int 0, .ref (ma 1), .int 1, .int (-1), .ref (ma 4), .int 0, .int 0, .int 0, .long 0, .int 0, .int 0, .int 0, .int 0, .long 0, .int 0, .int 0, .int 0, .ref (ma 17), .ref (ma 18), .ref (ma 19), .ref (ma 20), .ref (ma 21), .ref (ma 22), .ref (ma 23), .ref (ma 24), .ref (ma 25), .ref (ma 26), .ref (ma 27), .ref (ma 28), .ref (ma 29), .ref (ma 30), .ref (ma 31), .ref (ma 32), .ref (ma 33), .ref (ma 34), .ref (ma 35), .ref (ma 36), .ref (ma 37), .ref (ma 38), .ref (ma 39), .ref (ma 40), .ref (ma 41), .ref (ma 42), .ref (ma 43), .ref (ma 44), .ref (ma 45), .ref (ma 46), .ref (ma 47), .ref (ma 48), .int 0, .int 0, .int 0, .int 0, .int 0, .int 0, .int 0, .int 0, .int 0, .int 0, .ref (ma 59), .ref (ma 60), .int 0, .int 0, .int 0, .int 0, .int 0, .int 0, .ref (ma 67), .ref (ma 68), .ref (ma 69), .int 0, .int (-1), .int 0, .ref (ma 73)])), ((ma 1), .inl (cy 0, 1600, .inl (upd f139 (1 : Int32).toNatClampNeg (vp_nar .byte z148))))] := hD
      generalize hff150 : (upd f139 (1 : Int32).toNatClampNeg (vp_nar .byte z148)) = f150 at hP hD
      refine lv_aload_n hx hb dX12_feed_62 rfl (lv_at hl 1 rfl) ?_
      refine lv_dup hx hb dX12_feed_63 rfl ?_
      refine va_get (D := D) (ci := 12) (v := .int 1) (C := RX12) (T := TX12) (N := 74) hx hb hT i_TX12 hown hK hP 0 rfl rfl 2 (by decide) (hT _ t_1717) (fun _ h9 => h9) rfl dX12_feed_64 ?_
      refine lv_iconst (v := 1) hx hb dX12_feed_67 (by decide) ?_
      refine lv_iadd hx hb dX12_feed_68 ?_
      refine lv_topi (fun z151 e152 => ?_)
      obtain rfl : z151 = 2 := e152.trans (by first | decide | rfl)
      refine va_put (D := D) (ci := 12) (v := .int 2) (ty := .int) (C := RX12) (T := TX12) (N := 74) hx hb hT i_TX12 tyX12 tyX12_ok nmX12 hown hK hP hD hS 0 rfl rfl 2 (by decide) (hT _ t_1717) (fun _ h9 => h9) rfl (by decide +kernel) rfl rfl (Nat.le_of_ble_eq_true rfl) dX12_feed_69 (fun H locs hP hD hS => ?_)
      have hP : va_P D vwCl [(hm, .inr (12, [.int 0, .ref (ma 1), .int 2, .int (-1), .ref (ma 4), .int 0, .int 0, .int 0, .long 0, .int 0, .int 0, .int 0, .int 0, .long 0, .int 0, .int 0, .int 0, .ref (ma 17), .ref (ma 18), .ref (ma 19), .ref (ma 20), .ref (ma 21), .ref (ma 22), .ref (ma 23), .ref (ma 24), .ref (ma 25), .ref (ma 26), .ref (ma 27), .ref (ma 28), .ref (ma 29), .ref (ma 30), .ref (ma 31), .ref (ma 32), .ref (ma 33), .ref (ma 34), .ref (ma 35), .ref (ma 36), .ref (ma 37), .ref (ma 38), .ref (ma 39), .ref (ma 40), .ref (ma 41), .ref (ma 42), .ref (ma 43), .ref (ma 44), .ref (ma 45), .ref (ma 46), .ref (ma 47), .ref (ma 48), .int 0, .int 0, .int 0, .int 0, .int 0, .int 0, .int 0, .int 0, .int 0, .int 0, .ref (ma 59), .ref (ma 60), .int 0, .int 0, .int 0, .int 0, .int 0, .int 0, .ref (ma 67), .ref (ma 68), .ref (ma 69), .int 0, .int (-1), .int 0, .ref (ma 73)])), ((ma 1), .inl (cy 0, 1600, .inl f150))] H := hP
      have hD : va_D A [(hm, .inr (12, [.int 0, .ref (ma 1), .int 2, .int (-1), .ref (ma 4), .int 0, .int 0, .int 0, .long 0, .int 0, .int 0, .int 0, .int 0, .long 0, .int 0, .int 0, .int 0, .ref (ma 17), .ref (ma 18), .ref (ma 19), .ref (ma 20), .ref (ma 21), .ref (ma 22), .ref (ma 23), .ref (ma 24), .ref (ma 25), .ref (ma 26), .ref (ma 27), .ref (ma 28), .ref (ma 29), .ref (ma 30), .ref (ma 31), .ref (ma 32), .ref (ma 33), .ref (ma 34), .ref (ma 35), .ref (ma 36), .ref (ma 37), .ref (ma 38), .ref (ma 39), .ref (ma 40), .ref (ma 41), .ref (ma 42), .ref (ma 43), .ref (ma 44), .ref (ma 45), .ref (ma 46), .ref (ma 47), .ref (ma 48), .int 0, .int 0, .int 0, .int 0, .int 0, .int 0, .int 0, .int 0, .int 0, .int 0, .ref (ma 59), .ref (ma 60), .int 0, .int 0, .int 0, .int 0, .int 0, .int 0, .ref (ma 67), .ref (ma 68), .ref (ma 69), .int 0, .int (-1), .int 0, .ref (ma 73)])), ((ma 1), .inl (cy 0, 1600, .inl f150))] := hD
      refine lv_iinc (v := 2) (lv' := [(4, .int 2), (0, .ref hm), (1, .long p0), (3, .int (nI 5))]) hx hb dX12_feed_72 hl (k := 0) rfl (by decide) (by decide) rfl (fun ls hl => ?_)
      refine lv_goto (tgt := 39) hx hb dX12_feed_75 (by decide) ?_
      refine lv_iload hx hb dX12_feed_39 (lv_at hl 0 rfl) ?_
      refine lv_if_lt (tgt := 78) hx hb dX12_feed_41 (by decide) (fun c9 => absurd c9 (by decide)) (fun _ => ?_)
      refine lv_aload_n hx hb dX12_feed_44 rfl (lv_at hl 1 rfl) ?_
      refine va_get (D := D) (ci := 12) (v := .ref (ma 1)) (C := RX12) (T := TX12) (N := 74) hx hb hT i_TX12 hown hK hP 0 rfl rfl 1 (by decide) (hT _ t_1716) (fun _ h9 => h9) rfl dX12_feed_45 ?_
      refine lv_aload_n hx hb dX12_feed_48 rfl (lv_at hl 1 rfl) ?_
      refine va_get (D := D) (ci := 12) (v := .int 2) (C := RX12) (T := TX12) (N := 74) hx hb hT i_TX12 hown hK hP 0 rfl rfl 2 (by decide) (hT _ t_1717) (fun _ h9 => h9) rfl dX12_feed_49 ?_
      refine lv_lload_n hx hb dX12_feed_52 rfl (lv_at hl 2 rfl) ?_
      refine lv_bipush (v := 8) hx hb dX12_feed_53 (by decide) ?_
      refine lv_iload hx hb dX12_feed_55 (lv_at hl 0 rfl) ?_
      refine lv_imul hx hb dX12_feed_57 ?_
      refine lv_topi (fun z153 e154 => ?_)
      obtain rfl : z153 = 16 := e154.trans (by first | decide | rfl)
      refine lv_lshr hx hb dX12_feed_58 rfl ?_
      refine lv_topl (fun z155 e156 => ?_)
      refine lv_l2i hx hb dX12_feed_59 rfl ?_
      refine lv_topi (fun z157 e158 => ?_)
      refine lv_i2b hx hb dX12_feed_60 rfl ?_
      refine lv_topi (fun z159 e160 => ?_)
      refine va_bast hx hb hK hP hD hS 1 0 rfl rfl (vp_in_iff.mpr (by decide)) dX12_feed_61 (fun H locs hP hD hS => ?_)
      have hP : va_P D vwCl [(hm, .inr (12, [.int 0, .ref (ma 1), .int 2, .int (-1), .ref (ma 4), .int 0, .int 0, .int 0, .long 0, .int 0, .int 0, .int 0, .int 0, .long 0, .int 0, .int 0, .int 0, .ref (ma 17), .ref (ma 18), .ref (ma 19), .ref (ma 20), .ref (ma 21), .ref (ma 22), .ref (ma 23), .ref (ma 24), .ref (ma 25), .ref (ma 26), .ref (ma 27), .ref (ma 28), .ref (ma 29), .ref (ma 30), .ref (ma 31), .ref (ma 32), .ref (ma 33), .ref (ma 34), .ref (ma 35), .ref (ma 36), .ref (ma 37), .ref (ma 38), .ref (ma 39), .ref (ma 40), .ref (ma 41), .ref (ma 42), .ref (ma 43), .ref (ma 44), .ref (ma 45), .ref (ma 46), .ref (ma 47), .ref (ma 48), .int 0, .int 0, .int 0, .int 0, .int 0, .int 0, .int 0, .int 0, .int 0, .int 0, .ref (ma 59), .ref (ma 60), .int 0, .int 0, .int 0, .int 0, .int 0, .int 0, .ref (ma 67), .ref (ma 68), .ref (ma 69), .int 0, .int (-1), .int 0, .ref (ma 73)])), ((ma 1), .inl (cy 0, 1600, .inl (upd f150 (2 : Int32).toNatClampNeg (vp_nar .byte z159))))] H := hP
      have hD : va_D A [(hm, .inr (12, [.int 0, .ref (ma 1), .int 2, .int (-1), .ref (ma 4), .int 0, .int 0, .int 0, .long 0, .int 0, .int 0, .int 0, .int 0, .long 0, .int 0, .int 0, .int 0, .ref (ma 17), .ref (ma 18), .ref (ma 19), .ref (ma 20), .ref (ma 21), .ref (ma 22), .ref (ma 23), .ref (ma 24), .ref (ma 25), .ref (ma 26), .ref (ma 27), .ref (ma 28), .ref (ma 29), .ref (ma 30), .ref (ma 31), .ref (ma 32), .ref (ma 33), .ref (ma 34), .ref (ma 35), .ref (ma 36), .ref (ma 37), .ref (ma 38), .ref (ma 39), .ref (ma 40), .ref (ma 41), .ref (ma 42), .ref (ma 43), .ref (ma 44), .ref (ma 45), .ref (ma 46), .ref (ma 47), .ref (ma 48), .int 0, .int 0, .int 0, .int 0, .int 0, .int 0, .int 0, .int 0, .int 0, .int 0, .ref (ma 59), .ref (ma 60), .int 0, .int 0, .int 0, .int 0, .int 0, .int 0, .ref (ma 67), .ref (ma 68), .ref (ma 69), .int 0, .int (-1), .int 0, .ref (ma 73)])), ((ma 1), .inl (cy 0, 1600, .inl (upd f150 (2 : Int32).toNatClampNeg (vp_nar .byte z159))))] := hD
      generalize hff161 : (upd f150 (2 : Int32).toNatClampNeg (vp_nar .byte z159)) = f161 at hP hD
      refine lv_aload_n hx hb dX12_feed_62 rfl (lv_at hl 1 rfl) ?_
      refine lv_dup hx hb dX12_feed_63 rfl ?_
      refine va_get (D := D) (ci := 12) (v := .int 2) (C := RX12) (T := TX12) (N := 74) hx hb hT i_TX12 hown hK hP 0 rfl rfl 2 (by decide) (hT _ t_1717) (fun _ h9 => h9) rfl dX12_feed_64 ?_
      refine lv_iconst (v := 1) hx hb dX12_feed_67 (by decide) ?_
      refine lv_iadd hx hb dX12_feed_68 ?_
      refine lv_topi (fun z162 e163 => ?_)
      obtain rfl : z162 = 3 := e163.trans (by first | decide | rfl)
      refine va_put (D := D) (ci := 12) (v := .int 3) (ty := .int) (C := RX12) (T := TX12) (N := 74) hx hb hT i_TX12 tyX12 tyX12_ok nmX12 hown hK hP hD hS 0 rfl rfl 2 (by decide) (hT _ t_1717) (fun _ h9 => h9) rfl (by decide +kernel) rfl rfl (Nat.le_of_ble_eq_true rfl) dX12_feed_69 (fun H locs hP hD hS => ?_)
      have hP : va_P D vwCl [(hm, .inr (12, [.int 0, .ref (ma 1), .int 3, .int (-1), .ref (ma 4), .int 0, .int 0, .int 0, .long 0, .int 0, .int 0, .int 0, .int 0, .long 0, .int 0, .int 0, .int 0, .ref (ma 17), .ref (ma 18), .ref (ma 19), .ref (ma 20), .ref (ma 21), .ref (ma 22), .ref (ma 23), .ref (ma 24), .ref (ma 25), .ref (ma 26), .ref (ma 27), .ref (ma 28), .ref (ma 29), .ref (ma 30), .ref (ma 31), .ref (ma 32), .ref (ma 33), .ref (ma 34), .ref (ma 35), .ref (ma 36), .ref (ma 37), .ref (ma 38), .ref (ma 39), .ref (ma 40), .ref (ma 41), .ref (ma 42), .ref (ma 43), .ref (ma 44), .ref (ma 45), .ref (ma 46), .ref (ma 47), .ref (ma 48), .int 0, .int 0, .int 0, .int 0, .int 0, .int 0, .int 0, .int 0, .int 0, .int 0, .ref (ma 59), .ref (ma 60), .int 0, .int 0, .int 0, .int 0, .int 0, .int 0, .ref (ma 67), .ref (ma 68), .ref (ma 69), .int 0, .int (-1), .int 0, .ref (ma 73)])), ((ma 1), .inl (cy 0, 1600, .inl f161))] H := hP
      have hD : va_D A [(hm, .inr (12, [.int 0, .ref (ma 1), .int 3, .int (-1), .ref (ma 4), .int 0, .int 0, .int 0, .long 0, .int 0, .int 0, .int 0, .int 0, .long 0, .int 0, .int 0, .int 0, .ref (ma 17), .ref (ma 18), .ref (ma 19), .ref (ma 20), .ref (ma 21), .ref (ma 22), .ref (ma 23), .ref (ma 24), .ref (ma 25), .ref (ma 26), .ref (ma 27), .ref (ma 28), .ref (ma 29), .ref (ma 30), .ref (ma 31), .ref (ma 32), .ref (ma 33), .ref (ma 34), .ref (ma 35), .ref (ma 36), .ref (ma 37), .ref (ma 38), .ref (ma 39), .ref (ma 40), .ref (ma 41), .ref (ma 42), .ref (ma 43), .ref (ma 44), .ref (ma 45), .ref (ma 46), .ref (ma 47), .ref (ma 48), .int 0, .int 0, .int 0, .int 0, .int 0, .int 0, .int 0, .int 0, .int 0, .int 0, .ref (ma 59), .ref (ma 60), .int 0, .int 0, .int 0, .int 0, .int 0, .int 0, .ref (ma 67), .ref (ma 68), .ref (ma 69), .int 0, .int (-1), .int 0, .ref (ma 73)])), ((ma 1), .inl (cy 0, 1600, .inl f161))] := hD
      refine lv_iinc (v := 1) (lv' := [(4, .int 1), (0, .ref hm), (1, .long p0), (3, .int (nI 5))]) hx hb dX12_feed_72 hl (k := 0) rfl (by decide) (by decide) rfl (fun ls hl => ?_)
      refine lv_goto (tgt := 39) hx hb dX12_feed_75 (by decide) ?_
      refine lv_iload hx hb dX12_feed_39 (lv_at hl 0 rfl) ?_
      refine lv_if_lt (tgt := 78) hx hb dX12_feed_41 (by decide) (fun c9 => absurd c9 (by decide)) (fun _ => ?_)
      refine lv_aload_n hx hb dX12_feed_44 rfl (lv_at hl 1 rfl) ?_
      refine va_get (D := D) (ci := 12) (v := .ref (ma 1)) (C := RX12) (T := TX12) (N := 74) hx hb hT i_TX12 hown hK hP 0 rfl rfl 1 (by decide) (hT _ t_1716) (fun _ h9 => h9) rfl dX12_feed_45 ?_
      refine lv_aload_n hx hb dX12_feed_48 rfl (lv_at hl 1 rfl) ?_
      refine va_get (D := D) (ci := 12) (v := .int 3) (C := RX12) (T := TX12) (N := 74) hx hb hT i_TX12 hown hK hP 0 rfl rfl 2 (by decide) (hT _ t_1717) (fun _ h9 => h9) rfl dX12_feed_49 ?_
      refine lv_lload_n hx hb dX12_feed_52 rfl (lv_at hl 2 rfl) ?_
      refine lv_bipush (v := 8) hx hb dX12_feed_53 (by decide) ?_
      refine lv_iload hx hb dX12_feed_55 (lv_at hl 0 rfl) ?_
      refine lv_imul hx hb dX12_feed_57 ?_
      refine lv_topi (fun z164 e165 => ?_)
      obtain rfl : z164 = 8 := e165.trans (by first | decide | rfl)
      refine lv_lshr hx hb dX12_feed_58 rfl ?_
      refine lv_topl (fun z166 e167 => ?_)
      refine lv_l2i hx hb dX12_feed_59 rfl ?_
      refine lv_topi (fun z168 e169 => ?_)
      refine lv_i2b hx hb dX12_feed_60 rfl ?_
      refine lv_topi (fun z170 e171 => ?_)
      refine va_bast hx hb hK hP hD hS 1 0 rfl rfl (vp_in_iff.mpr (by decide)) dX12_feed_61 (fun H locs hP hD hS => ?_)
      have hP : va_P D vwCl [(hm, .inr (12, [.int 0, .ref (ma 1), .int 3, .int (-1), .ref (ma 4), .int 0, .int 0, .int 0, .long 0, .int 0, .int 0, .int 0, .int 0, .long 0, .int 0, .int 0, .int 0, .ref (ma 17), .ref (ma 18), .ref (ma 19), .ref (ma 20), .ref (ma 21), .ref (ma 22), .ref (ma 23), .ref (ma 24), .ref (ma 25), .ref (ma 26), .ref (ma 27), .ref (ma 28), .ref (ma 29), .ref (ma 30), .ref (ma 31), .ref (ma 32), .ref (ma 33), .ref (ma 34), .ref (ma 35), .ref (ma 36), .ref (ma 37), .ref (ma 38), .ref (ma 39), .ref (ma 40), .ref (ma 41), .ref (ma 42), .ref (ma 43), .ref (ma 44), .ref (ma 45), .ref (ma 46), .ref (ma 47), .ref (ma 48), .int 0, .int 0, .int 0, .int 0, .int 0, .int 0, .int 0, .int 0, .int 0, .int 0, .ref (ma 59), .ref (ma 60), .int 0, .int 0, .int 0, .int 0, .int 0, .int 0, .ref (ma 67), .ref (ma 68), .ref (ma 69), .int 0, .int (-1), .int 0, .ref (ma 73)])), ((ma 1), .inl (cy 0, 1600, .inl (upd f161 (3 : Int32).toNatClampNeg (vp_nar .byte z170))))] H := hP
      have hD : va_D A [(hm, .inr (12, [.int 0, .ref (ma 1), .int 3, .int (-1), .ref (ma 4), .int 0, .int 0, .int 0, .long 0, .int 0, .int 0, .int 0, .int 0, .long 0, .int 0, .int 0, .int 0, .ref (ma 17), .ref (ma 18), .ref (ma 19), .ref (ma 20), .ref (ma 21), .ref (ma 22), .ref (ma 23), .ref (ma 24), .ref (ma 25), .ref (ma 26), .ref (ma 27), .ref (ma 28), .ref (ma 29), .ref (ma 30), .ref (ma 31), .ref (ma 32), .ref (ma 33), .ref (ma 34), .ref (ma 35), .ref (ma 36), .ref (ma 37), .ref (ma 38), .ref (ma 39), .ref (ma 40), .ref (ma 41), .ref (ma 42), .ref (ma 43), .ref (ma 44), .ref (ma 45), .ref (ma 46), .ref (ma 47), .ref (ma 48), .int 0, .int 0, .int 0, .int 0, .int 0, .int 0, .int 0, .int 0, .int 0, .int 0, .ref (ma 59), .ref (ma 60), .int 0, .int 0, .int 0, .int 0, .int 0, .int 0, .ref (ma 67), .ref (ma 68), .ref (ma 69), .int 0, .int (-1), .int 0, .ref (ma 73)])), ((ma 1), .inl (cy 0, 1600, .inl (upd f161 (3 : Int32).toNatClampNeg (vp_nar .byte z170))))] := hD
      generalize hff172 : (upd f161 (3 : Int32).toNatClampNeg (vp_nar .byte z170)) = f172 at hP hD
      refine lv_aload_n hx hb dX12_feed_62 rfl (lv_at hl 1 rfl) ?_
      refine lv_dup hx hb dX12_feed_63 rfl ?_
      refine va_get (D := D) (ci := 12) (v := .int 3) (C := RX12) (T := TX12) (N := 74) hx hb hT i_TX12 hown hK hP 0 rfl rfl 2 (by decide) (hT _ t_1717) (fun _ h9 => h9) rfl dX12_feed_64 ?_
      refine lv_iconst (v := 1) hx hb dX12_feed_67 (by decide) ?_
      refine lv_iadd hx hb dX12_feed_68 ?_
      refine lv_topi (fun z173 e174 => ?_)
      obtain rfl : z173 = 4 := e174.trans (by first | decide | rfl)
      refine va_put (D := D) (ci := 12) (v := .int 4) (ty := .int) (C := RX12) (T := TX12) (N := 74) hx hb hT i_TX12 tyX12 tyX12_ok nmX12 hown hK hP hD hS 0 rfl rfl 2 (by decide) (hT _ t_1717) (fun _ h9 => h9) rfl (by decide +kernel) rfl rfl (Nat.le_of_ble_eq_true rfl) dX12_feed_69 (fun H locs hP hD hS => ?_)
      have hP : va_P D vwCl [(hm, .inr (12, [.int 0, .ref (ma 1), .int 4, .int (-1), .ref (ma 4), .int 0, .int 0, .int 0, .long 0, .int 0, .int 0, .int 0, .int 0, .long 0, .int 0, .int 0, .int 0, .ref (ma 17), .ref (ma 18), .ref (ma 19), .ref (ma 20), .ref (ma 21), .ref (ma 22), .ref (ma 23), .ref (ma 24), .ref (ma 25), .ref (ma 26), .ref (ma 27), .ref (ma 28), .ref (ma 29), .ref (ma 30), .ref (ma 31), .ref (ma 32), .ref (ma 33), .ref (ma 34), .ref (ma 35), .ref (ma 36), .ref (ma 37), .ref (ma 38), .ref (ma 39), .ref (ma 40), .ref (ma 41), .ref (ma 42), .ref (ma 43), .ref (ma 44), .ref (ma 45), .ref (ma 46), .ref (ma 47), .ref (ma 48), .int 0, .int 0, .int 0, .int 0, .int 0, .int 0, .int 0, .int 0, .int 0, .int 0, .ref (ma 59), .ref (ma 60), .int 0, .int 0, .int 0, .int 0, .int 0, .int 0, .ref (ma 67), .ref (ma 68), .ref (ma 69), .int 0, .int (-1), .int 0, .ref (ma 73)])), ((ma 1), .inl (cy 0, 1600, .inl f172))] H := hP
      have hD : va_D A [(hm, .inr (12, [.int 0, .ref (ma 1), .int 4, .int (-1), .ref (ma 4), .int 0, .int 0, .int 0, .long 0, .int 0, .int 0, .int 0, .int 0, .long 0, .int 0, .int 0, .int 0, .ref (ma 17), .ref (ma 18), .ref (ma 19), .ref (ma 20), .ref (ma 21), .ref (ma 22), .ref (ma 23), .ref (ma 24), .ref (ma 25), .ref (ma 26), .ref (ma 27), .ref (ma 28), .ref (ma 29), .ref (ma 30), .ref (ma 31), .ref (ma 32), .ref (ma 33), .ref (ma 34), .ref (ma 35), .ref (ma 36), .ref (ma 37), .ref (ma 38), .ref (ma 39), .ref (ma 40), .ref (ma 41), .ref (ma 42), .ref (ma 43), .ref (ma 44), .ref (ma 45), .ref (ma 46), .ref (ma 47), .ref (ma 48), .int 0, .int 0, .int 0, .int 0, .int 0, .int 0, .int 0, .int 0, .int 0, .int 0, .ref (ma 59), .ref (ma 60), .int 0, .int 0, .int 0, .int 0, .int 0, .int 0, .ref (ma 67), .ref (ma 68), .ref (ma 69), .int 0, .int (-1), .int 0, .ref (ma 73)])), ((ma 1), .inl (cy 0, 1600, .inl f172))] := hD
      refine lv_iinc (v := 0) (lv' := [(4, .int 0), (0, .ref hm), (1, .long p0), (3, .int (nI 5))]) hx hb dX12_feed_72 hl (k := 0) rfl (by decide) (by decide) rfl (fun ls hl => ?_)
      refine lv_goto (tgt := 39) hx hb dX12_feed_75 (by decide) ?_
      refine lv_iload hx hb dX12_feed_39 (lv_at hl 0 rfl) ?_
      refine lv_if_lt (tgt := 78) hx hb dX12_feed_41 (by decide) (fun c9 => absurd c9 (by decide)) (fun _ => ?_)
      refine lv_aload_n hx hb dX12_feed_44 rfl (lv_at hl 1 rfl) ?_
      refine va_get (D := D) (ci := 12) (v := .ref (ma 1)) (C := RX12) (T := TX12) (N := 74) hx hb hT i_TX12 hown hK hP 0 rfl rfl 1 (by decide) (hT _ t_1716) (fun _ h9 => h9) rfl dX12_feed_45 ?_
      refine lv_aload_n hx hb dX12_feed_48 rfl (lv_at hl 1 rfl) ?_
      refine va_get (D := D) (ci := 12) (v := .int 4) (C := RX12) (T := TX12) (N := 74) hx hb hT i_TX12 hown hK hP 0 rfl rfl 2 (by decide) (hT _ t_1717) (fun _ h9 => h9) rfl dX12_feed_49 ?_
      refine lv_lload_n hx hb dX12_feed_52 rfl (lv_at hl 2 rfl) ?_
      refine lv_bipush (v := 8) hx hb dX12_feed_53 (by decide) ?_
      refine lv_iload hx hb dX12_feed_55 (lv_at hl 0 rfl) ?_
      refine lv_imul hx hb dX12_feed_57 ?_
      refine lv_topi (fun z175 e176 => ?_)
      obtain rfl : z175 = 0 := e176.trans (by first | decide | rfl)
      refine lv_lshr hx hb dX12_feed_58 rfl ?_
      refine lv_topl (fun z177 e178 => ?_)
      refine lv_l2i hx hb dX12_feed_59 rfl ?_
      refine lv_topi (fun z179 e180 => ?_)
      refine lv_i2b hx hb dX12_feed_60 rfl ?_
      refine lv_topi (fun z181 e182 => ?_)
      refine va_bast hx hb hK hP hD hS 1 0 rfl rfl (vp_in_iff.mpr (by decide)) dX12_feed_61 (fun H locs hP hD hS => ?_)
      have hP : va_P D vwCl [(hm, .inr (12, [.int 0, .ref (ma 1), .int 4, .int (-1), .ref (ma 4), .int 0, .int 0, .int 0, .long 0, .int 0, .int 0, .int 0, .int 0, .long 0, .int 0, .int 0, .int 0, .ref (ma 17), .ref (ma 18), .ref (ma 19), .ref (ma 20), .ref (ma 21), .ref (ma 22), .ref (ma 23), .ref (ma 24), .ref (ma 25), .ref (ma 26), .ref (ma 27), .ref (ma 28), .ref (ma 29), .ref (ma 30), .ref (ma 31), .ref (ma 32), .ref (ma 33), .ref (ma 34), .ref (ma 35), .ref (ma 36), .ref (ma 37), .ref (ma 38), .ref (ma 39), .ref (ma 40), .ref (ma 41), .ref (ma 42), .ref (ma 43), .ref (ma 44), .ref (ma 45), .ref (ma 46), .ref (ma 47), .ref (ma 48), .int 0, .int 0, .int 0, .int 0, .int 0, .int 0, .int 0, .int 0, .int 0, .int 0, .ref (ma 59), .ref (ma 60), .int 0, .int 0, .int 0, .int 0, .int 0, .int 0, .ref (ma 67), .ref (ma 68), .ref (ma 69), .int 0, .int (-1), .int 0, .ref (ma 73)])), ((ma 1), .inl (cy 0, 1600, .inl (upd f172 (4 : Int32).toNatClampNeg (vp_nar .byte z181))))] H := hP
      have hD : va_D A [(hm, .inr (12, [.int 0, .ref (ma 1), .int 4, .int (-1), .ref (ma 4), .int 0, .int 0, .int 0, .long 0, .int 0, .int 0, .int 0, .int 0, .long 0, .int 0, .int 0, .int 0, .ref (ma 17), .ref (ma 18), .ref (ma 19), .ref (ma 20), .ref (ma 21), .ref (ma 22), .ref (ma 23), .ref (ma 24), .ref (ma 25), .ref (ma 26), .ref (ma 27), .ref (ma 28), .ref (ma 29), .ref (ma 30), .ref (ma 31), .ref (ma 32), .ref (ma 33), .ref (ma 34), .ref (ma 35), .ref (ma 36), .ref (ma 37), .ref (ma 38), .ref (ma 39), .ref (ma 40), .ref (ma 41), .ref (ma 42), .ref (ma 43), .ref (ma 44), .ref (ma 45), .ref (ma 46), .ref (ma 47), .ref (ma 48), .int 0, .int 0, .int 0, .int 0, .int 0, .int 0, .int 0, .int 0, .int 0, .int 0, .ref (ma 59), .ref (ma 60), .int 0, .int 0, .int 0, .int 0, .int 0, .int 0, .ref (ma 67), .ref (ma 68), .ref (ma 69), .int 0, .int (-1), .int 0, .ref (ma 73)])), ((ma 1), .inl (cy 0, 1600, .inl (upd f172 (4 : Int32).toNatClampNeg (vp_nar .byte z181))))] := hD
      generalize hff183 : (upd f172 (4 : Int32).toNatClampNeg (vp_nar .byte z181)) = f183 at hP hD
      refine lv_aload_n hx hb dX12_feed_62 rfl (lv_at hl 1 rfl) ?_
      refine lv_dup hx hb dX12_feed_63 rfl ?_
      refine va_get (D := D) (ci := 12) (v := .int 4) (C := RX12) (T := TX12) (N := 74) hx hb hT i_TX12 hown hK hP 0 rfl rfl 2 (by decide) (hT _ t_1717) (fun _ h9 => h9) rfl dX12_feed_64 ?_
      refine lv_iconst (v := 1) hx hb dX12_feed_67 (by decide) ?_
      refine lv_iadd hx hb dX12_feed_68 ?_
      refine lv_topi (fun z184 e185 => ?_)
      obtain rfl : z184 = 5 := e185.trans (by first | decide | rfl)
      refine va_put (D := D) (ci := 12) (v := .int 5) (ty := .int) (C := RX12) (T := TX12) (N := 74) hx hb hT i_TX12 tyX12 tyX12_ok nmX12 hown hK hP hD hS 0 rfl rfl 2 (by decide) (hT _ t_1717) (fun _ h9 => h9) rfl (by decide +kernel) rfl rfl (Nat.le_of_ble_eq_true rfl) dX12_feed_69 (fun H locs hP hD hS => ?_)
      have hP : va_P D vwCl [(hm, .inr (12, [.int 0, .ref (ma 1), .int 5, .int (-1), .ref (ma 4), .int 0, .int 0, .int 0, .long 0, .int 0, .int 0, .int 0, .int 0, .long 0, .int 0, .int 0, .int 0, .ref (ma 17), .ref (ma 18), .ref (ma 19), .ref (ma 20), .ref (ma 21), .ref (ma 22), .ref (ma 23), .ref (ma 24), .ref (ma 25), .ref (ma 26), .ref (ma 27), .ref (ma 28), .ref (ma 29), .ref (ma 30), .ref (ma 31), .ref (ma 32), .ref (ma 33), .ref (ma 34), .ref (ma 35), .ref (ma 36), .ref (ma 37), .ref (ma 38), .ref (ma 39), .ref (ma 40), .ref (ma 41), .ref (ma 42), .ref (ma 43), .ref (ma 44), .ref (ma 45), .ref (ma 46), .ref (ma 47), .ref (ma 48), .int 0, .int 0, .int 0, .int 0, .int 0, .int 0, .int 0, .int 0, .int 0, .int 0, .ref (ma 59), .ref (ma 60), .int 0, .int 0, .int 0, .int 0, .int 0, .int 0, .ref (ma 67), .ref (ma 68), .ref (ma 69), .int 0, .int (-1), .int 0, .ref (ma 73)])), ((ma 1), .inl (cy 0, 1600, .inl f183))] H := hP
      have hD : va_D A [(hm, .inr (12, [.int 0, .ref (ma 1), .int 5, .int (-1), .ref (ma 4), .int 0, .int 0, .int 0, .long 0, .int 0, .int 0, .int 0, .int 0, .long 0, .int 0, .int 0, .int 0, .ref (ma 17), .ref (ma 18), .ref (ma 19), .ref (ma 20), .ref (ma 21), .ref (ma 22), .ref (ma 23), .ref (ma 24), .ref (ma 25), .ref (ma 26), .ref (ma 27), .ref (ma 28), .ref (ma 29), .ref (ma 30), .ref (ma 31), .ref (ma 32), .ref (ma 33), .ref (ma 34), .ref (ma 35), .ref (ma 36), .ref (ma 37), .ref (ma 38), .ref (ma 39), .ref (ma 40), .ref (ma 41), .ref (ma 42), .ref (ma 43), .ref (ma 44), .ref (ma 45), .ref (ma 46), .ref (ma 47), .ref (ma 48), .int 0, .int 0, .int 0, .int 0, .int 0, .int 0, .int 0, .int 0, .int 0, .int 0, .ref (ma 59), .ref (ma 60), .int 0, .int 0, .int 0, .int 0, .int 0, .int 0, .ref (ma 67), .ref (ma 68), .ref (ma 69), .int 0, .int (-1), .int 0, .ref (ma 73)])), ((ma 1), .inl (cy 0, 1600, .inl f183))] := hD
      refine lv_iinc (v := (-1)) (lv' := [(4, .int (-1)), (0, .ref hm), (1, .long p0), (3, .int (nI 5))]) hx hb dX12_feed_72 hl (k := 0) rfl (by decide) (by decide) rfl (fun ls hl => ?_)
      refine lv_goto (tgt := 39) hx hb dX12_feed_75 (by decide) ?_
      refine lv_iload hx hb dX12_feed_39 (lv_at hl 0 rfl) ?_
      refine lv_if_lt (tgt := 78) hx hb dX12_feed_41 (by decide) (fun _ => ?_) (fun c9 => absurd (by decide) c9)
      refine lv_aload_n hx hb dX12_feed_78 rfl (lv_at hl 1 rfl) ?_
      refine va_get (D := D) (ci := 12) (v := .int 5) (C := RX12) (T := TX12) (N := 74) hx hb hT i_TX12 hown hK hP 0 rfl rfl 2 (by decide) (hT _ t_1717) (fun _ h9 => h9) rfl dX12_feed_79 ?_
      have hP9 := hP.sub (ws' := []) [] rfl
      have hD9 := hD.sub (ws' := []) [] (by decide) rfl
      refine W.widen (k := 0) (n := 0) (Nat.le_of_ble_eq_true rfl) (Nat.le_of_ble_eq_true rfl) ?_
      exact W.iret (v := 5) hx hb hr (fun t ht hW => ⟨⟨5, (), rfl, (by decide), by rw [ht]; exact hP9, hD9⟩, hS.F ht⟩) hS.2.2 dX12_feed_82
    · refine lv_aload_n hx hb dX12_feed_0 rfl (lv_at hl 0 rfl) ?_
      refine lv_iconst (v := 0) hx hb dX12_feed_1 (by decide) ?_
      refine va_put (D := D) (ci := 12) (v := .int 0) (ty := .int) (C := RX12) (T := TX12) (N := 74) hx hb hT i_TX12 tyX12 tyX12_ok nmX12 hown hK hP hD hS 0 rfl rfl 0 (by decide) (hT _ t_1715) (fun _ h9 => h9) rfl (by decide +kernel) rfl rfl (Nat.le_of_ble_eq_true rfl) dX12_feed_2 (fun H locs hP hD hS => ?_)
      have hP : va_P D vwCl [(hm, .inr (12, [.int 0, .ref (ma 1), .int 0, .int (-1), .ref (ma 4), .int 0, .int 0, .int 0, .long 0, .int 0, .int 0, .int 0, .int 0, .long 0, .int 0, .int 0, .int 0, .ref (ma 17), .ref (ma 18), .ref (ma 19), .ref (ma 20), .ref (ma 21), .ref (ma 22), .ref (ma 23), .ref (ma 24), .ref (ma 25), .ref (ma 26), .ref (ma 27), .ref (ma 28), .ref (ma 29), .ref (ma 30), .ref (ma 31), .ref (ma 32), .ref (ma 33), .ref (ma 34), .ref (ma 35), .ref (ma 36), .ref (ma 37), .ref (ma 38), .ref (ma 39), .ref (ma 40), .ref (ma 41), .ref (ma 42), .ref (ma 43), .ref (ma 44), .ref (ma 45), .ref (ma 46), .ref (ma 47), .ref (ma 48), .int 0, .int 0, .int 0, .int 0, .int 0, .int 0, .int 0, .int 0, .int 0, .int 0, .ref (ma 59), .ref (ma 60), .int 0, .int 0, .int 0, .int 0, .int 0, .int 0, .ref (ma 67), .ref (ma 68), .ref (ma 69), .int 0, .int (-1), .int 0, .ref (ma 73)])), ((ma 1), .inl (cy 0, 1600, .inl (fun _ => 0)))] H := hP
      have hD : va_D A [(hm, .inr (12, [.int 0, .ref (ma 1), .int 0, .int (-1), .ref (ma 4), .int 0, .int 0, .int 0, .long 0, .int 0, .int 0, .int 0, .int 0, .long 0, .int 0, .int 0, .int 0, .ref (ma 17), .ref (ma 18), .ref (ma 19), .ref (ma 20), .ref (ma 21), .ref (ma 22), .ref (ma 23), .ref (ma 24), .ref (ma 25), .ref (ma 26), .ref (ma 27), .ref (ma 28), .ref (ma 29), .ref (ma 30), .ref (ma 31), .ref (ma 32), .ref (ma 33), .ref (ma 34), .ref (ma 35), .ref (ma 36), .ref (ma 37), .ref (ma 38), .ref (ma 39), .ref (ma 40), .ref (ma 41), .ref (ma 42), .ref (ma 43), .ref (ma 44), .ref (ma 45), .ref (ma 46), .ref (ma 47), .ref (ma 48), .int 0, .int 0, .int 0, .int 0, .int 0, .int 0, .int 0, .int 0, .int 0, .int 0, .ref (ma 59), .ref (ma 60), .int 0, .int 0, .int 0, .int 0, .int 0, .int 0, .ref (ma 67), .ref (ma 68), .ref (ma 69), .int 0, .int (-1), .int 0, .ref (ma 73)])), ((ma 1), .inl (cy 0, 1600, .inl (fun _ => 0)))] := hD
      refine lv_iload_n hx hb dX12_feed_5 rfl (lv_at hl 2 rfl) ?_
      refine lv_iconst (v := 1) hx hb dX12_feed_6 (by decide) ?_
      refine lv_icmp_lt (tgt := 16) hx hb dX12_feed_7 (by decide) (fun c9 => absurd c9 (by decide)) (fun _ => ?_)
      refine lv_iload_n hx hb dX12_feed_10 rfl (lv_at hl 2 rfl) ?_
      refine lv_bipush (v := 8) hx hb dX12_feed_11 (by decide) ?_
      refine lv_icmp_le (tgt := 19) hx hb dX12_feed_13 (by decide) (fun _ => ?_) (fun c9 => absurd (by decide) c9)
      refine lv_aload_n hx hb dX12_feed_19 rfl (lv_at hl 0 rfl) ?_
      refine va_get (D := D) (ci := 12) (v := .int 0) (C := RX12) (T := TX12) (N := 74) hx hb hT i_TX12 hown hK hP 0 rfl rfl 2 (by decide) (hT _ t_1717) (fun _ h9 => h9) rfl dX12_feed_20 ?_
      refine lv_iload_n hx hb dX12_feed_23 rfl (lv_at hl 2 rfl) ?_
      refine lv_iadd hx hb dX12_feed_24 ?_
      refine lv_topi (fun z186 e187 => ?_)
      obtain rfl : z186 = 6 := e187.trans (by first | decide | rfl)
      refine lv_sipush (v := 1600) hx hb dX12_feed_25 (by decide) ?_
      refine lv_icmp_le (tgt := 34) hx hb dX12_feed_28 (by decide) (fun _ => ?_) (fun c9 => absurd (by decide) c9)
      refine lv_iload_n hx hb dX12_feed_34 rfl (lv_at hl 2 rfl) ?_
      refine lv_iconst (v := 1) hx hb dX12_feed_35 (by decide) ?_
      refine lv_isub hx hb dX12_feed_36 ?_
      refine lv_topi (fun z188 e189 => ?_)
      obtain rfl : z188 = 5 := e189.trans (by first | decide | rfl)
      refine lv_istore (lv' := [(4, .int 5), (0, .ref hm), (1, .long p0), (3, .int (nI 6))]) hx hb dX12_feed_37 hl (by decide) rfl (fun ls hl => ?_)
      refine lv_iload hx hb dX12_feed_39 (lv_at hl 0 rfl) ?_
      refine lv_if_lt (tgt := 78) hx hb dX12_feed_41 (by decide) (fun c9 => absurd c9 (by decide)) (fun _ => ?_)
      refine lv_aload_n hx hb dX12_feed_44 rfl (lv_at hl 1 rfl) ?_
      refine va_get (D := D) (ci := 12) (v := .ref (ma 1)) (C := RX12) (T := TX12) (N := 74) hx hb hT i_TX12 hown hK hP 0 rfl rfl 1 (by decide) (hT _ t_1716) (fun _ h9 => h9) rfl dX12_feed_45 ?_
      refine lv_aload_n hx hb dX12_feed_48 rfl (lv_at hl 1 rfl) ?_
      refine va_get (D := D) (ci := 12) (v := .int 0) (C := RX12) (T := TX12) (N := 74) hx hb hT i_TX12 hown hK hP 0 rfl rfl 2 (by decide) (hT _ t_1717) (fun _ h9 => h9) rfl dX12_feed_49 ?_
      refine lv_lload_n hx hb dX12_feed_52 rfl (lv_at hl 2 rfl) ?_
      refine lv_bipush (v := 8) hx hb dX12_feed_53 (by decide) ?_
      refine lv_iload hx hb dX12_feed_55 (lv_at hl 0 rfl) ?_
      refine lv_imul hx hb dX12_feed_57 ?_
      refine lv_topi (fun z190 e191 => ?_)
      obtain rfl : z190 = 40 := e191.trans (by first | decide | rfl)
      refine lv_lshr hx hb dX12_feed_58 rfl ?_
      refine lv_topl (fun z192 e193 => ?_)
      refine lv_l2i hx hb dX12_feed_59 rfl ?_
      refine lv_topi (fun z194 e195 => ?_)
      refine lv_i2b hx hb dX12_feed_60 rfl ?_
      refine lv_topi (fun z196 e197 => ?_)
      refine va_bast hx hb hK hP hD hS 1 0 rfl rfl (vp_in_iff.mpr (by decide)) dX12_feed_61 (fun H locs hP hD hS => ?_)
      have hP : va_P D vwCl [(hm, .inr (12, [.int 0, .ref (ma 1), .int 0, .int (-1), .ref (ma 4), .int 0, .int 0, .int 0, .long 0, .int 0, .int 0, .int 0, .int 0, .long 0, .int 0, .int 0, .int 0, .ref (ma 17), .ref (ma 18), .ref (ma 19), .ref (ma 20), .ref (ma 21), .ref (ma 22), .ref (ma 23), .ref (ma 24), .ref (ma 25), .ref (ma 26), .ref (ma 27), .ref (ma 28), .ref (ma 29), .ref (ma 30), .ref (ma 31), .ref (ma 32), .ref (ma 33), .ref (ma 34), .ref (ma 35), .ref (ma 36), .ref (ma 37), .ref (ma 38), .ref (ma 39), .ref (ma 40), .ref (ma 41), .ref (ma 42), .ref (ma 43), .ref (ma 44), .ref (ma 45), .ref (ma 46), .ref (ma 47), .ref (ma 48), .int 0, .int 0, .int 0, .int 0, .int 0, .int 0, .int 0, .int 0, .int 0, .int 0, .ref (ma 59), .ref (ma 60), .int 0, .int 0, .int 0, .int 0, .int 0, .int 0, .ref (ma 67), .ref (ma 68), .ref (ma 69), .int 0, .int (-1), .int 0, .ref (ma 73)])), ((ma 1), .inl (cy 0, 1600, .inl (upd (fun _ => 0) (0 : Int32).toNatClampNeg (vp_nar .byte z196))))] H := hP
      have hD : va_D A [(hm, .inr (12, [.int 0, .ref (ma 1), .int 0, .int (-1), .ref (ma 4), .int 0, .int 0, .int 0, .long 0, .int 0, .int 0, .int 0, .int 0, .long 0, .int 0, .int 0, .int 0, .ref (ma 17), .ref (ma 18), .ref (ma 19), .ref (ma 20), .ref (ma 21), .ref (ma 22), .ref (ma 23), .ref (ma 24), .ref (ma 25), .ref (ma 26), .ref (ma 27), .ref (ma 28), .ref (ma 29), .ref (ma 30), .ref (ma 31), .ref (ma 32), .ref (ma 33), .ref (ma 34), .ref (ma 35), .ref (ma 36), .ref (ma 37), .ref (ma 38), .ref (ma 39), .ref (ma 40), .ref (ma 41), .ref (ma 42), .ref (ma 43), .ref (ma 44), .ref (ma 45), .ref (ma 46), .ref (ma 47), .ref (ma 48), .int 0, .int 0, .int 0, .int 0, .int 0, .int 0, .int 0, .int 0, .int 0, .int 0, .ref (ma 59), .ref (ma 60), .int 0, .int 0, .int 0, .int 0, .int 0, .int 0, .ref (ma 67), .ref (ma 68), .ref (ma 69), .int 0, .int (-1), .int 0, .ref (ma 73)])), ((ma 1), .inl (cy 0, 1600, .inl (upd (fun _ => 0) (0 : Int32).toNatClampNeg (vp_nar .byte z196))))] := hD
      generalize hff198 : (upd (fun _ => 0) (0 : Int32).toNatClampNeg (vp_nar .byte z196)) = f198 at hP hD
      refine lv_aload_n hx hb dX12_feed_62 rfl (lv_at hl 1 rfl) ?_
      refine lv_dup hx hb dX12_feed_63 rfl ?_
      refine va_get (D := D) (ci := 12) (v := .int 0) (C := RX12) (T := TX12) (N := 74) hx hb hT i_TX12 hown hK hP 0 rfl rfl 2 (by decide) (hT _ t_1717) (fun _ h9 => h9) rfl dX12_feed_64 ?_
      refine lv_iconst (v := 1) hx hb dX12_feed_67 (by decide) ?_
      refine lv_iadd hx hb dX12_feed_68 ?_
      refine lv_topi (fun z199 e200 => ?_)
      obtain rfl : z199 = 1 := e200.trans (by first | decide | rfl)
      refine va_put (D := D) (ci := 12) (v := .int 1) (ty := .int) (C := RX12) (T := TX12) (N := 74) hx hb hT i_TX12 tyX12 tyX12_ok nmX12 hown hK hP hD hS 0 rfl rfl 2 (by decide) (hT _ t_1717) (fun _ h9 => h9) rfl (by decide +kernel) rfl rfl (Nat.le_of_ble_eq_true rfl) dX12_feed_69 (fun H locs hP hD hS => ?_)
      have hP : va_P D vwCl [(hm, .inr (12, [.int 0, .ref (ma 1), .int 1, .int (-1), .ref (ma 4), .int 0, .int 0, .int 0, .long 0, .int 0, .int 0, .int 0, .int 0, .long 0, .int 0, .int 0, .int 0, .ref (ma 17), .ref (ma 18), .ref (ma 19), .ref (ma 20), .ref (ma 21), .ref (ma 22), .ref (ma 23), .ref (ma 24), .ref (ma 25), .ref (ma 26), .ref (ma 27), .ref (ma 28), .ref (ma 29), .ref (ma 30), .ref (ma 31), .ref (ma 32), .ref (ma 33), .ref (ma 34), .ref (ma 35), .ref (ma 36), .ref (ma 37), .ref (ma 38), .ref (ma 39), .ref (ma 40), .ref (ma 41), .ref (ma 42), .ref (ma 43), .ref (ma 44), .ref (ma 45), .ref (ma 46), .ref (ma 47), .ref (ma 48), .int 0, .int 0, .int 0, .int 0, .int 0, .int 0, .int 0, .int 0, .int 0, .int 0, .ref (ma 59), .ref (ma 60), .int 0, .int 0, .int 0, .int 0, .int 0, .int 0, .ref (ma 67), .ref (ma 68), .ref (ma 69), .int 0, .int (-1), .int 0, .ref (ma 73)])), ((ma 1), .inl (cy 0, 1600, .inl f198))] H := hP
      have hD : va_D A [(hm, .inr (12, [.int 0, .ref (ma 1), .int 1, .int (-1), .ref (ma 4), .int 0, .int 0, .int 0, .long 0, .int 0, .int 0, .int 0, .int 0, .long 0, .int 0, .int 0, .int 0, .ref (ma 17), .ref (ma 18), .ref (ma 19), .ref (ma 20), .ref (ma 21), .ref (ma 22), .ref (ma 23), .ref (ma 24), .ref (ma 25), .ref (ma 26), .ref (ma 27), .ref (ma 28), .ref (ma 29), .ref (ma 30), .ref (ma 31), .ref (ma 32), .ref (ma 33), .ref (ma 34), .ref (ma 35), .ref (ma 36), .ref (ma 37), .ref (ma 38), .ref (ma 39), .ref (ma 40), .ref (ma 41), .ref (ma 42), .ref (ma 43), .ref (ma 44), .ref (ma 45), .ref (ma 46), .ref (ma 47), .ref (ma 48), .int 0, .int 0, .int 0, .int 0, .int 0, .int 0, .int 0, .int 0, .int 0, .int 0, .ref (ma 59), .ref (ma 60), .int 0, .int 0, .int 0, .int 0, .int 0, .int 0, .ref (ma 67), .ref (ma 68), .ref (ma 69), .int 0, .int (-1), .int 0, .ref (ma 73)])), ((ma 1), .inl (cy 0, 1600, .inl f198))] := hD
      refine lv_iinc (v := 4) (lv' := [(4, .int 4), (0, .ref hm), (1, .long p0), (3, .int (nI 6))]) hx hb dX12_feed_72 hl (k := 0) rfl (by decide) (by decide) rfl (fun ls hl => ?_)
      refine lv_goto (tgt := 39) hx hb dX12_feed_75 (by decide) ?_
      refine lv_iload hx hb dX12_feed_39 (lv_at hl 0 rfl) ?_
      refine lv_if_lt (tgt := 78) hx hb dX12_feed_41 (by decide) (fun c9 => absurd c9 (by decide)) (fun _ => ?_)
      refine lv_aload_n hx hb dX12_feed_44 rfl (lv_at hl 1 rfl) ?_
      refine va_get (D := D) (ci := 12) (v := .ref (ma 1)) (C := RX12) (T := TX12) (N := 74) hx hb hT i_TX12 hown hK hP 0 rfl rfl 1 (by decide) (hT _ t_1716) (fun _ h9 => h9) rfl dX12_feed_45 ?_
      refine lv_aload_n hx hb dX12_feed_48 rfl (lv_at hl 1 rfl) ?_
      refine va_get (D := D) (ci := 12) (v := .int 1) (C := RX12) (T := TX12) (N := 74) hx hb hT i_TX12 hown hK hP 0 rfl rfl 2 (by decide) (hT _ t_1717) (fun _ h9 => h9) rfl dX12_feed_49 ?_
      refine lv_lload_n hx hb dX12_feed_52 rfl (lv_at hl 2 rfl) ?_
      refine lv_bipush (v := 8) hx hb dX12_feed_53 (by decide) ?_
      refine lv_iload hx hb dX12_feed_55 (lv_at hl 0 rfl) ?_
      refine lv_imul hx hb dX12_feed_57 ?_
      refine lv_topi (fun z201 e202 => ?_)
      obtain rfl : z201 = 32 := e202.trans (by first | decide | rfl)
      refine lv_lshr hx hb dX12_feed_58 rfl ?_
      refine lv_topl (fun z203 e204 => ?_)
      refine lv_l2i hx hb dX12_feed_59 rfl ?_
      refine lv_topi (fun z205 e206 => ?_)
      refine lv_i2b hx hb dX12_feed_60 rfl ?_
      refine lv_topi (fun z207 e208 => ?_)
      refine va_bast hx hb hK hP hD hS 1 0 rfl rfl (vp_in_iff.mpr (by decide)) dX12_feed_61 (fun H locs hP hD hS => ?_)
      have hP : va_P D vwCl [(hm, .inr (12, [.int 0, .ref (ma 1), .int 1, .int (-1), .ref (ma 4), .int 0, .int 0, .int 0, .long 0, .int 0, .int 0, .int 0, .int 0, .long 0, .int 0, .int 0, .int 0, .ref (ma 17), .ref (ma 18), .ref (ma 19), .ref (ma 20), .ref (ma 21), .ref (ma 22), .ref (ma 23), .ref (ma 24), .ref (ma 25), .ref (ma 26), .ref (ma 27), .ref (ma 28), .ref (ma 29), .ref (ma 30), .ref (ma 31), .ref (ma 32), .ref (ma 33), .ref (ma 34), .ref (ma 35), .ref (ma 36), .ref (ma 37), .ref (ma 38), .ref (ma 39), .ref (ma 40), .ref (ma 41), .ref (ma 42), .ref (ma 43), .ref (ma 44), .ref (ma 45), .ref (ma 46), .ref (ma 47), .ref (ma 48), .int 0, .int 0, .int 0, .int 0, .int 0, .int 0, .int 0, .int 0, .int 0, .int 0, .ref (ma 59), .ref (ma 60), .int 0, .int 0, .int 0, .int 0, .int 0, .int 0, .ref (ma 67), .ref (ma 68), .ref (ma 69), .int 0, .int (-1), .int 0, .ref (ma 73)])), ((ma 1), .inl (cy 0, 1600, .inl (upd f198 (1 : Int32).toNatClampNeg (vp_nar .byte z207))))] H := hP
      have hD : va_D A [(hm, .inr (12, [.int 0, .ref (ma 1), .int 1, .int (-1), .ref (ma 4), .int 0, .int 0, .int 0, .long 0, .int 0, .int 0, .int 0, .int 0, .long 0, .int 0, .int 0, .int 0, .ref (ma 17), .ref (ma 18), .ref (ma 19), .ref (ma 20), .ref (ma 21), .ref (ma 22), .ref (ma 23), .ref (ma 24), .ref (ma 25), .ref (ma 26), .ref (ma 27), .ref (ma 28), .ref (ma 29), .ref (ma 30), .ref (ma 31), .ref (ma 32), .ref (ma 33), .ref (ma 34), .ref (ma 35), .ref (ma 36), .ref (ma 37), .ref (ma 38), .ref (ma 39), .ref (ma 40), .ref (ma 41), .ref (ma 42), .ref (ma 43), .ref (ma 44), .ref (ma 45), .ref (ma 46), .ref (ma 47), .ref (ma 48), .int 0, .int 0, .int 0, .int 0, .int 0, .int 0, .int 0, .int 0, .int 0, .int 0, .ref (ma 59), .ref (ma 60), .int 0, .int 0, .int 0, .int 0, .int 0, .int 0, .ref (ma 67), .ref (ma 68), .ref (ma 69), .int 0, .int (-1), .int 0, .ref (ma 73)])), ((ma 1), .inl (cy 0, 1600, .inl (upd f198 (1 : Int32).toNatClampNeg (vp_nar .byte z207))))] := hD
      generalize hff209 : (upd f198 (1 : Int32).toNatClampNeg (vp_nar .byte z207)) = f209 at hP hD
      refine lv_aload_n hx hb dX12_feed_62 rfl (lv_at hl 1 rfl) ?_
      refine lv_dup hx hb dX12_feed_63 rfl ?_
      refine va_get (D := D) (ci := 12) (v := .int 1) (C := RX12) (T := TX12) (N := 74) hx hb hT i_TX12 hown hK hP 0 rfl rfl 2 (by decide) (hT _ t_1717) (fun _ h9 => h9) rfl dX12_feed_64 ?_
      refine lv_iconst (v := 1) hx hb dX12_feed_67 (by decide) ?_
      refine lv_iadd hx hb dX12_feed_68 ?_
      refine lv_topi (fun z210 e211 => ?_)
      obtain rfl : z210 = 2 := e211.trans (by first | decide | rfl)
      refine va_put (D := D) (ci := 12) (v := .int 2) (ty := .int) (C := RX12) (T := TX12) (N := 74) hx hb hT i_TX12 tyX12 tyX12_ok nmX12 hown hK hP hD hS 0 rfl rfl 2 (by decide) (hT _ t_1717) (fun _ h9 => h9) rfl (by decide +kernel) rfl rfl (Nat.le_of_ble_eq_true rfl) dX12_feed_69 (fun H locs hP hD hS => ?_)
      have hP : va_P D vwCl [(hm, .inr (12, [.int 0, .ref (ma 1), .int 2, .int (-1), .ref (ma 4), .int 0, .int 0, .int 0, .long 0, .int 0, .int 0, .int 0, .int 0, .long 0, .int 0, .int 0, .int 0, .ref (ma 17), .ref (ma 18), .ref (ma 19), .ref (ma 20), .ref (ma 21), .ref (ma 22), .ref (ma 23), .ref (ma 24), .ref (ma 25), .ref (ma 26), .ref (ma 27), .ref (ma 28), .ref (ma 29), .ref (ma 30), .ref (ma 31), .ref (ma 32), .ref (ma 33), .ref (ma 34), .ref (ma 35), .ref (ma 36), .ref (ma 37), .ref (ma 38), .ref (ma 39), .ref (ma 40), .ref (ma 41), .ref (ma 42), .ref (ma 43), .ref (ma 44), .ref (ma 45), .ref (ma 46), .ref (ma 47), .ref (ma 48), .int 0, .int 0, .int 0, .int 0, .int 0, .int 0, .int 0, .int 0, .int 0, .int 0, .ref (ma 59), .ref (ma 60), .int 0, .int 0, .int 0, .int 0, .int 0, .int 0, .ref (ma 67), .ref (ma 68), .ref (ma 69), .int 0, .int (-1), .int 0, .ref (ma 73)])), ((ma 1), .inl (cy 0, 1600, .inl f209))] H := hP
      have hD : va_D A [(hm, .inr (12, [.int 0, .ref (ma 1), .int 2, .int (-1), .ref (ma 4), .int 0, .int 0, .int 0, .long 0, .int 0, .int 0, .int 0, .int 0, .long 0, .int 0, .int 0, .int 0, .ref (ma 17), .ref (ma 18), .ref (ma 19), .ref (ma 20), .ref (ma 21), .ref (ma 22), .ref (ma 23), .ref (ma 24), .ref (ma 25), .ref (ma 26), .ref (ma 27), .ref (ma 28), .ref (ma 29), .ref (ma 30), .ref (ma 31), .ref (ma 32), .ref (ma 33), .ref (ma 34), .ref (ma 35), .ref (ma 36), .ref (ma 37), .ref (ma 38), .ref (ma 39), .ref (ma 40), .ref (ma 41), .ref (ma 42), .ref (ma 43), .ref (ma 44), .ref (ma 45), .ref (ma 46), .ref (ma 47), .ref (ma 48), .int 0, .int 0, .int 0, .int 0, .int 0, .int 0, .int 0, .int 0, .int 0, .int 0, .ref (ma 59), .ref (ma 60), .int 0, .int 0, .int 0, .int 0, .int 0, .int 0, .ref (ma 67), .ref (ma 68), .ref (ma 69), .int 0, .int (-1), .int 0, .ref (ma 73)])), ((ma 1), .inl (cy 0, 1600, .inl f209))] := hD
      refine lv_iinc (v := 3) (lv' := [(4, .int 3), (0, .ref hm), (1, .long p0), (3, .int (nI 6))]) hx hb dX12_feed_72 hl (k := 0) rfl (by decide) (by decide) rfl (fun ls hl => ?_)
      refine lv_goto (tgt := 39) hx hb dX12_feed_75 (by decide) ?_
      refine lv_iload hx hb dX12_feed_39 (lv_at hl 0 rfl) ?_
      refine lv_if_lt (tgt := 78) hx hb dX12_feed_41 (by decide) (fun c9 => absurd c9 (by decide)) (fun _ => ?_)
      refine lv_aload_n hx hb dX12_feed_44 rfl (lv_at hl 1 rfl) ?_
      refine va_get (D := D) (ci := 12) (v := .ref (ma 1)) (C := RX12) (T := TX12) (N := 74) hx hb hT i_TX12 hown hK hP 0 rfl rfl 1 (by decide) (hT _ t_1716) (fun _ h9 => h9) rfl dX12_feed_45 ?_
      refine lv_aload_n hx hb dX12_feed_48 rfl (lv_at hl 1 rfl) ?_
      refine va_get (D := D) (ci := 12) (v := .int 2) (C := RX12) (T := TX12) (N := 74) hx hb hT i_TX12 hown hK hP 0 rfl rfl 2 (by decide) (hT _ t_1717) (fun _ h9 => h9) rfl dX12_feed_49 ?_
      refine lv_lload_n hx hb dX12_feed_52 rfl (lv_at hl 2 rfl) ?_
      refine lv_bipush (v := 8) hx hb dX12_feed_53 (by decide) ?_
      refine lv_iload hx hb dX12_feed_55 (lv_at hl 0 rfl) ?_
      refine lv_imul hx hb dX12_feed_57 ?_
      refine lv_topi (fun z212 e213 => ?_)
      obtain rfl : z212 = 24 := e213.trans (by first | decide | rfl)
      refine lv_lshr hx hb dX12_feed_58 rfl ?_
      refine lv_topl (fun z214 e215 => ?_)
      refine lv_l2i hx hb dX12_feed_59 rfl ?_
      refine lv_topi (fun z216 e217 => ?_)
      refine lv_i2b hx hb dX12_feed_60 rfl ?_
      refine lv_topi (fun z218 e219 => ?_)
      refine va_bast hx hb hK hP hD hS 1 0 rfl rfl (vp_in_iff.mpr (by decide)) dX12_feed_61 (fun H locs hP hD hS => ?_)
      have hP : va_P D vwCl [(hm, .inr (12, [.int 0, .ref (ma 1), .int 2, .int (-1), .ref (ma 4), .int 0, .int 0, .int 0, .long 0, .int 0, .int 0, .int 0, .int 0, .long 0, .int 0, .int 0, .int 0, .ref (ma 17), .ref (ma 18), .ref (ma 19), .ref (ma 20), .ref (ma 21), .ref (ma 22), .ref (ma 23), .ref (ma 24), .ref (ma 25), .ref (ma 26), .ref (ma 27), .ref (ma 28), .ref (ma 29), .ref (ma 30), .ref (ma 31), .ref (ma 32), .ref (ma 33), .ref (ma 34), .ref (ma 35), .ref (ma 36), .ref (ma 37), .ref (ma 38), .ref (ma 39), .ref (ma 40), .ref (ma 41), .ref (ma 42), .ref (ma 43), .ref (ma 44), .ref (ma 45), .ref (ma 46), .ref (ma 47), .ref (ma 48), .int 0, .int 0, .int 0, .int 0, .int 0, .int 0, .int 0, .int 0, .int 0, .int 0, .ref (ma 59), .ref (ma 60), .int 0, .int 0, .int 0, .int 0, .int 0, .int 0, .ref (ma 67), .ref (ma 68), .ref (ma 69), .int 0, .int (-1), .int 0, .ref (ma 73)])), ((ma 1), .inl (cy 0, 1600, .inl (upd f209 (2 : Int32).toNatClampNeg (vp_nar .byte z218))))] H := hP
      have hD : va_D A [(hm, .inr (12, [.int 0, .ref (ma 1), .int 2, .int (-1), .ref (ma 4), .int 0, .int 0, .int 0, .long 0, .int 0, .int 0, .int 0, .int 0, .long 0, .int 0, .int 0, .int 0, .ref (ma 17), .ref (ma 18), .ref (ma 19), .ref (ma 20), .ref (ma 21), .ref (ma 22), .ref (ma 23), .ref (ma 24), .ref (ma 25), .ref (ma 26), .ref (ma 27), .ref (ma 28), .ref (ma 29), .ref (ma 30), .ref (ma 31), .ref (ma 32), .ref (ma 33), .ref (ma 34), .ref (ma 35), .ref (ma 36), .ref (ma 37), .ref (ma 38), .ref (ma 39), .ref (ma 40), .ref (ma 41), .ref (ma 42), .ref (ma 43), .ref (ma 44), .ref (ma 45), .ref (ma 46), .ref (ma 47), .ref (ma 48), .int 0, .int 0, .int 0, .int 0, .int 0, .int 0, .int 0, .int 0, .int 0, .int 0, .ref (ma 59), .ref (ma 60), .int 0, .int 0, .int 0, .int 0, .int 0, .int 0, .ref (ma 67), .ref (ma 68), .ref (ma 69), .int 0, .int (-1), .int 0, .ref (ma 73)])), ((ma 1), .inl (cy 0, 1600, .inl (upd f209 (2 : Int32).toNatClampNeg (vp_nar .byte z218))))] := hD
      generalize hff220 : (upd f209 (2 : Int32).toNatClampNeg (vp_nar .byte z218)) = f220 at hP hD
      refine lv_aload_n hx hb dX12_feed_62 rfl (lv_at hl 1 rfl) ?_
      refine lv_dup hx hb dX12_feed_63 rfl ?_
      refine va_get (D := D) (ci := 12) (v := .int 2) (C := RX12) (T := TX12) (N := 74) hx hb hT i_TX12 hown hK hP 0 rfl rfl 2 (by decide) (hT _ t_1717) (fun _ h9 => h9) rfl dX12_feed_64 ?_
      refine lv_iconst (v := 1) hx hb dX12_feed_67 (by decide) ?_
      refine lv_iadd hx hb dX12_feed_68 ?_
      refine lv_topi (fun z221 e222 => ?_)
      obtain rfl : z221 = 3 := e222.trans (by first | decide | rfl)
      refine va_put (D := D) (ci := 12) (v := .int 3) (ty := .int) (C := RX12) (T := TX12) (N := 74) hx hb hT i_TX12 tyX12 tyX12_ok nmX12 hown hK hP hD hS 0 rfl rfl 2 (by decide) (hT _ t_1717) (fun _ h9 => h9) rfl (by decide +kernel) rfl rfl (Nat.le_of_ble_eq_true rfl) dX12_feed_69 (fun H locs hP hD hS => ?_)
      have hP : va_P D vwCl [(hm, .inr (12, [.int 0, .ref (ma 1), .int 3, .int (-1), .ref (ma 4), .int 0, .int 0, .int 0, .long 0, .int 0, .int 0, .int 0, .int 0, .long 0, .int 0, .int 0, .int 0, .ref (ma 17), .ref (ma 18), .ref (ma 19), .ref (ma 20), .ref (ma 21), .ref (ma 22), .ref (ma 23), .ref (ma 24), .ref (ma 25), .ref (ma 26), .ref (ma 27), .ref (ma 28), .ref (ma 29), .ref (ma 30), .ref (ma 31), .ref (ma 32), .ref (ma 33), .ref (ma 34), .ref (ma 35), .ref (ma 36), .ref (ma 37), .ref (ma 38), .ref (ma 39), .ref (ma 40), .ref (ma 41), .ref (ma 42), .ref (ma 43), .ref (ma 44), .ref (ma 45), .ref (ma 46), .ref (ma 47), .ref (ma 48), .int 0, .int 0, .int 0, .int 0, .int 0, .int 0, .int 0, .int 0, .int 0, .int 0, .ref (ma 59), .ref (ma 60), .int 0, .int 0, .int 0, .int 0, .int 0, .int 0, .ref (ma 67), .ref (ma 68), .ref (ma 69), .int 0, .int (-1), .int 0, .ref (ma 73)])), ((ma 1), .inl (cy 0, 1600, .inl f220))] H := hP
      have hD : va_D A [(hm, .inr (12, [.int 0, .ref (ma 1), .int 3, .int (-1), .ref (ma 4), .int 0, .int 0, .int 0, .long 0, .int 0, .int 0, .int 0, .int 0, .long 0, .int 0, .int 0, .int 0, .ref (ma 17), .ref (ma 18), .ref (ma 19), .ref (ma 20), .ref (ma 21), .ref (ma 22), .ref (ma 23), .ref (ma 24), .ref (ma 25), .ref (ma 26), .ref (ma 27), .ref (ma 28), .ref (ma 29), .ref (ma 30), .ref (ma 31), .ref (ma 32), .ref (ma 33), .ref (ma 34), .ref (ma 35), .ref (ma 36), .ref (ma 37), .ref (ma 38), .ref (ma 39), .ref (ma 40), .ref (ma 41), .ref (ma 42), .ref (ma 43), .ref (ma 44), .ref (ma 45), .ref (ma 46), .ref (ma 47), .ref (ma 48), .int 0, .int 0, .int 0, .int 0, .int 0, .int 0, .int 0, .int 0, .int 0, .int 0, .ref (ma 59), .ref (ma 60), .int 0, .int 0, .int 0, .int 0, .int 0, .int 0, .ref (ma 67), .ref (ma 68), .ref (ma 69), .int 0, .int (-1), .int 0, .ref (ma 73)])), ((ma 1), .inl (cy 0, 1600, .inl f220))] := hD
      refine lv_iinc (v := 2) (lv' := [(4, .int 2), (0, .ref hm), (1, .long p0), (3, .int (nI 6))]) hx hb dX12_feed_72 hl (k := 0) rfl (by decide) (by decide) rfl (fun ls hl => ?_)
      refine lv_goto (tgt := 39) hx hb dX12_feed_75 (by decide) ?_
      refine lv_iload hx hb dX12_feed_39 (lv_at hl 0 rfl) ?_
      refine lv_if_lt (tgt := 78) hx hb dX12_feed_41 (by decide) (fun c9 => absurd c9 (by decide)) (fun _ => ?_)
      refine lv_aload_n hx hb dX12_feed_44 rfl (lv_at hl 1 rfl) ?_
      refine va_get (D := D) (ci := 12) (v := .ref (ma 1)) (C := RX12) (T := TX12) (N := 74) hx hb hT i_TX12 hown hK hP 0 rfl rfl 1 (by decide) (hT _ t_1716) (fun _ h9 => h9) rfl dX12_feed_45 ?_
      refine lv_aload_n hx hb dX12_feed_48 rfl (lv_at hl 1 rfl) ?_
      refine va_get (D := D) (ci := 12) (v := .int 3) (C := RX12) (T := TX12) (N := 74) hx hb hT i_TX12 hown hK hP 0 rfl rfl 2 (by decide) (hT _ t_1717) (fun _ h9 => h9) rfl dX12_feed_49 ?_
      refine lv_lload_n hx hb dX12_feed_52 rfl (lv_at hl 2 rfl) ?_
      refine lv_bipush (v := 8) hx hb dX12_feed_53 (by decide) ?_
      refine lv_iload hx hb dX12_feed_55 (lv_at hl 0 rfl) ?_
      refine lv_imul hx hb dX12_feed_57 ?_
      refine lv_topi (fun z223 e224 => ?_)
      obtain rfl : z223 = 16 := e224.trans (by first | decide | rfl)
      refine lv_lshr hx hb dX12_feed_58 rfl ?_
      refine lv_topl (fun z225 e226 => ?_)
      refine lv_l2i hx hb dX12_feed_59 rfl ?_
      refine lv_topi (fun z227 e228 => ?_)
      refine lv_i2b hx hb dX12_feed_60 rfl ?_
      refine lv_topi (fun z229 e230 => ?_)
      refine va_bast hx hb hK hP hD hS 1 0 rfl rfl (vp_in_iff.mpr (by decide)) dX12_feed_61 (fun H locs hP hD hS => ?_)
      have hP : va_P D vwCl [(hm, .inr (12, [.int 0, .ref (ma 1), .int 3, .int (-1), .ref (ma 4), .int 0, .int 0, .int 0, .long 0, .int 0, .int 0, .int 0, .int 0, .long 0, .int 0, .int 0, .int 0, .ref (ma 17), .ref (ma 18), .ref (ma 19), .ref (ma 20), .ref (ma 21), .ref (ma 22), .ref (ma 23), .ref (ma 24), .ref (ma 25), .ref (ma 26), .ref (ma 27), .ref (ma 28), .ref (ma 29), .ref (ma 30), .ref (ma 31), .ref (ma 32), .ref (ma 33), .ref (ma 34), .ref (ma 35), .ref (ma 36), .ref (ma 37), .ref (ma 38), .ref (ma 39), .ref (ma 40), .ref (ma 41), .ref (ma 42), .ref (ma 43), .ref (ma 44), .ref (ma 45), .ref (ma 46), .ref (ma 47), .ref (ma 48), .int 0, .int 0, .int 0, .int 0, .int 0, .int 0, .int 0, .int 0, .int 0, .int 0, .ref (ma 59), .ref (ma 60), .int 0, .int 0, .int 0, .int 0, .int 0, .int 0, .ref (ma 67), .ref (ma 68), .ref (ma 69), .int 0, .int (-1), .int 0, .ref (ma 73)])), ((ma 1), .inl (cy 0, 1600, .inl (upd f220 (3 : Int32).toNatClampNeg (vp_nar .byte z229))))] H := hP
      have hD : va_D A [(hm, .inr (12, [.int 0, .ref (ma 1), .int 3, .int (-1), .ref (ma 4), .int 0, .int 0, .int 0, .long 0, .int 0, .int 0, .int 0, .int 0, .long 0, .int 0, .int 0, .int 0, .ref (ma 17), .ref (ma 18), .ref (ma 19), .ref (ma 20), .ref (ma 21), .ref (ma 22), .ref (ma 23), .ref (ma 24), .ref (ma 25), .ref (ma 26), .ref (ma 27), .ref (ma 28), .ref (ma 29), .ref (ma 30), .ref (ma 31), .ref (ma 32), .ref (ma 33), .ref (ma 34), .ref (ma 35), .ref (ma 36), .ref (ma 37), .ref (ma 38), .ref (ma 39), .ref (ma 40), .ref (ma 41), .ref (ma 42), .ref (ma 43), .ref (ma 44), .ref (ma 45), .ref (ma 46), .ref (ma 47), .ref (ma 48), .int 0, .int 0, .int 0, .int 0, .int 0, .int 0, .int 0, .int 0, .int 0, .int 0, .ref (ma 59), .ref (ma 60), .int 0, .int 0, .int 0, .int 0, .int 0, .int 0, .ref (ma 67), .ref (ma 68), .ref (ma 69), .int 0, .int (-1), .int 0, .ref (ma 73)])), ((ma 1), .inl (cy 0, 1600, .inl (upd f220 (3 : Int32).toNatClampNeg (vp_nar .byte z229))))] := hD
      generalize hff231 : (upd f220 (3 : Int32).toNatClampNeg (vp_nar .byte z229)) = f231 at hP hD
      refine lv_aload_n hx hb dX12_feed_62 rfl (lv_at hl 1 rfl) ?_
      refine lv_dup hx hb dX12_feed_63 rfl ?_
      refine va_get (D := D) (ci := 12) (v := .int 3) (C := RX12) (T := TX12) (N := 74) hx hb hT i_TX12 hown hK hP 0 rfl rfl 2 (by decide) (hT _ t_1717) (fun _ h9 => h9) rfl dX12_feed_64 ?_
      refine lv_iconst (v := 1) hx hb dX12_feed_67 (by decide) ?_
      refine lv_iadd hx hb dX12_feed_68 ?_
      refine lv_topi (fun z232 e233 => ?_)
      obtain rfl : z232 = 4 := e233.trans (by first | decide | rfl)
      refine va_put (D := D) (ci := 12) (v := .int 4) (ty := .int) (C := RX12) (T := TX12) (N := 74) hx hb hT i_TX12 tyX12 tyX12_ok nmX12 hown hK hP hD hS 0 rfl rfl 2 (by decide) (hT _ t_1717) (fun _ h9 => h9) rfl (by decide +kernel) rfl rfl (Nat.le_of_ble_eq_true rfl) dX12_feed_69 (fun H locs hP hD hS => ?_)
      have hP : va_P D vwCl [(hm, .inr (12, [.int 0, .ref (ma 1), .int 4, .int (-1), .ref (ma 4), .int 0, .int 0, .int 0, .long 0, .int 0, .int 0, .int 0, .int 0, .long 0, .int 0, .int 0, .int 0, .ref (ma 17), .ref (ma 18), .ref (ma 19), .ref (ma 20), .ref (ma 21), .ref (ma 22), .ref (ma 23), .ref (ma 24), .ref (ma 25), .ref (ma 26), .ref (ma 27), .ref (ma 28), .ref (ma 29), .ref (ma 30), .ref (ma 31), .ref (ma 32), .ref (ma 33), .ref (ma 34), .ref (ma 35), .ref (ma 36), .ref (ma 37), .ref (ma 38), .ref (ma 39), .ref (ma 40), .ref (ma 41), .ref (ma 42), .ref (ma 43), .ref (ma 44), .ref (ma 45), .ref (ma 46), .ref (ma 47), .ref (ma 48), .int 0, .int 0, .int 0, .int 0, .int 0, .int 0, .int 0, .int 0, .int 0, .int 0, .ref (ma 59), .ref (ma 60), .int 0, .int 0, .int 0, .int 0, .int 0, .int 0, .ref (ma 67), .ref (ma 68), .ref (ma 69), .int 0, .int (-1), .int 0, .ref (ma 73)])), ((ma 1), .inl (cy 0, 1600, .inl f231))] H := hP
      have hD : va_D A [(hm, .inr (12, [.int 0, .ref (ma 1), .int 4, .int (-1), .ref (ma 4), .int 0, .int 0, .int 0, .long 0, .int 0, .int 0, .int 0, .int 0, .long 0, .int 0, .int 0, .int 0, .ref (ma 17), .ref (ma 18), .ref (ma 19), .ref (ma 20), .ref (ma 21), .ref (ma 22), .ref (ma 23), .ref (ma 24), .ref (ma 25), .ref (ma 26), .ref (ma 27), .ref (ma 28), .ref (ma 29), .ref (ma 30), .ref (ma 31), .ref (ma 32), .ref (ma 33), .ref (ma 34), .ref (ma 35), .ref (ma 36), .ref (ma 37), .ref (ma 38), .ref (ma 39), .ref (ma 40), .ref (ma 41), .ref (ma 42), .ref (ma 43), .ref (ma 44), .ref (ma 45), .ref (ma 46), .ref (ma 47), .ref (ma 48), .int 0, .int 0, .int 0, .int 0, .int 0, .int 0, .int 0, .int 0, .int 0, .int 0, .ref (ma 59), .ref (ma 60), .int 0, .int 0, .int 0, .int 0, .int 0, .int 0, .ref (ma 67), .ref (ma 68), .ref (ma 69), .int 0, .int (-1), .int 0, .ref (ma 73)])), ((ma 1), .inl (cy 0, 1600, .inl f231))] := hD
      refine lv_iinc (v := 1) (lv' := [(4, .int 1), (0, .ref hm), (1, .long p0), (3, .int (nI 6))]) hx hb dX12_feed_72 hl (k := 0) rfl (by decide) (by decide) rfl (fun ls hl => ?_)
      refine lv_goto (tgt := 39) hx hb dX12_feed_75 (by decide) ?_
      refine lv_iload hx hb dX12_feed_39 (lv_at hl 0 rfl) ?_
      refine lv_if_lt (tgt := 78) hx hb dX12_feed_41 (by decide) (fun c9 => absurd c9 (by decide)) (fun _ => ?_)
      refine lv_aload_n hx hb dX12_feed_44 rfl (lv_at hl 1 rfl) ?_
      refine va_get (D := D) (ci := 12) (v := .ref (ma 1)) (C := RX12) (T := TX12) (N := 74) hx hb hT i_TX12 hown hK hP 0 rfl rfl 1 (by decide) (hT _ t_1716) (fun _ h9 => h9) rfl dX12_feed_45 ?_
      refine lv_aload_n hx hb dX12_feed_48 rfl (lv_at hl 1 rfl) ?_
      refine va_get (D := D) (ci := 12) (v := .int 4) (C := RX12) (T := TX12) (N := 74) hx hb hT i_TX12 hown hK hP 0 rfl rfl 2 (by decide) (hT _ t_1717) (fun _ h9 => h9) rfl dX12_feed_49 ?_
      refine lv_lload_n hx hb dX12_feed_52 rfl (lv_at hl 2 rfl) ?_
      refine lv_bipush (v := 8) hx hb dX12_feed_53 (by decide) ?_
      refine lv_iload hx hb dX12_feed_55 (lv_at hl 0 rfl) ?_
      refine lv_imul hx hb dX12_feed_57 ?_
      refine lv_topi (fun z234 e235 => ?_)
      obtain rfl : z234 = 8 := e235.trans (by first | decide | rfl)
      refine lv_lshr hx hb dX12_feed_58 rfl ?_
      refine lv_topl (fun z236 e237 => ?_)
      refine lv_l2i hx hb dX12_feed_59 rfl ?_
      refine lv_topi (fun z238 e239 => ?_)
      refine lv_i2b hx hb dX12_feed_60 rfl ?_
      refine lv_topi (fun z240 e241 => ?_)
      refine va_bast hx hb hK hP hD hS 1 0 rfl rfl (vp_in_iff.mpr (by decide)) dX12_feed_61 (fun H locs hP hD hS => ?_)
      have hP : va_P D vwCl [(hm, .inr (12, [.int 0, .ref (ma 1), .int 4, .int (-1), .ref (ma 4), .int 0, .int 0, .int 0, .long 0, .int 0, .int 0, .int 0, .int 0, .long 0, .int 0, .int 0, .int 0, .ref (ma 17), .ref (ma 18), .ref (ma 19), .ref (ma 20), .ref (ma 21), .ref (ma 22), .ref (ma 23), .ref (ma 24), .ref (ma 25), .ref (ma 26), .ref (ma 27), .ref (ma 28), .ref (ma 29), .ref (ma 30), .ref (ma 31), .ref (ma 32), .ref (ma 33), .ref (ma 34), .ref (ma 35), .ref (ma 36), .ref (ma 37), .ref (ma 38), .ref (ma 39), .ref (ma 40), .ref (ma 41), .ref (ma 42), .ref (ma 43), .ref (ma 44), .ref (ma 45), .ref (ma 46), .ref (ma 47), .ref (ma 48), .int 0, .int 0, .int 0, .int 0, .int 0, .int 0, .int 0, .int 0, .int 0, .int 0, .ref (ma 59), .ref (ma 60), .int 0, .int 0, .int 0, .int 0, .int 0, .int 0, .ref (ma 67), .ref (ma 68), .ref (ma 69), .int 0, .int (-1), .int 0, .ref (ma 73)])), ((ma 1), .inl (cy 0, 1600, .inl (upd f231 (4 : Int32).toNatClampNeg (vp_nar .byte z240))))] H := hP
      have hD : va_D A [(hm, .inr (12, [.int 0, .ref (ma 1), .int 4, .int (-1), .ref (ma 4), .int 0, .int 0, .int 0, .long 0, .int 0, .int 0, .int 0, .int 0, .long 0, .int 0, .int 0, .int 0, .ref (ma 17), .ref (ma 18), .ref (ma 19), .ref (ma 20), .ref (ma 21), .ref (ma 22), .ref (ma 23), .ref (ma 24), .ref (ma 25), .ref (ma 26), .ref (ma 27), .ref (ma 28), .ref (ma 29), .ref (ma 30), .ref (ma 31), .ref (ma 32), .ref (ma 33), .ref (ma 34), .ref (ma 35), .ref (ma 36), .ref (ma 37), .ref (ma 38), .ref (ma 39), .ref (ma 40), .ref (ma 41), .ref (ma 42), .ref (ma 43), .ref (ma 44), .ref (ma 45), .ref (ma 46), .ref (ma 47), .ref (ma 48), .int 0, .int 0, .int 0, .int 0, .int 0, .int 0, .int 0, .int 0, .int 0, .int 0, .ref (ma 59), .ref (ma 60), .int 0, .int 0, .int 0, .int 0, .int 0, .int 0, .ref (ma 67), .ref (ma 68), .ref (ma 69), .int 0, .int (-1), .int 0, .ref (ma 73)])), ((ma 1), .inl (cy 0, 1600, .inl (upd f231 (4 : Int32).toNatClampNeg (vp_nar .byte z240))))] := hD
      generalize hff242 : (upd f231 (4 : Int32).toNatClampNeg (vp_nar .byte z240)) = f242 at hP hD
      refine lv_aload_n hx hb dX12_feed_62 rfl (lv_at hl 1 rfl) ?_
      refine lv_dup hx hb dX12_feed_63 rfl ?_
      refine va_get (D := D) (ci := 12) (v := .int 4) (C := RX12) (T := TX12) (N := 74) hx hb hT i_TX12 hown hK hP 0 rfl rfl 2 (by decide) (hT _ t_1717) (fun _ h9 => h9) rfl dX12_feed_64 ?_
      refine lv_iconst (v := 1) hx hb dX12_feed_67 (by decide) ?_
      refine lv_iadd hx hb dX12_feed_68 ?_
      refine lv_topi (fun z243 e244 => ?_)
      obtain rfl : z243 = 5 := e244.trans (by first | decide | rfl)
      refine va_put (D := D) (ci := 12) (v := .int 5) (ty := .int) (C := RX12) (T := TX12) (N := 74) hx hb hT i_TX12 tyX12 tyX12_ok nmX12 hown hK hP hD hS 0 rfl rfl 2 (by decide) (hT _ t_1717) (fun _ h9 => h9) rfl (by decide +kernel) rfl rfl (Nat.le_of_ble_eq_true rfl) dX12_feed_69 (fun H locs hP hD hS => ?_)
      have hP : va_P D vwCl [(hm, .inr (12, [.int 0, .ref (ma 1), .int 5, .int (-1), .ref (ma 4), .int 0, .int 0, .int 0, .long 0, .int 0, .int 0, .int 0, .int 0, .long 0, .int 0, .int 0, .int 0, .ref (ma 17), .ref (ma 18), .ref (ma 19), .ref (ma 20), .ref (ma 21), .ref (ma 22), .ref (ma 23), .ref (ma 24), .ref (ma 25), .ref (ma 26), .ref (ma 27), .ref (ma 28), .ref (ma 29), .ref (ma 30), .ref (ma 31), .ref (ma 32), .ref (ma 33), .ref (ma 34), .ref (ma 35), .ref (ma 36), .ref (ma 37), .ref (ma 38), .ref (ma 39), .ref (ma 40), .ref (ma 41), .ref (ma 42), .ref (ma 43), .ref (ma 44), .ref (ma 45), .ref (ma 46), .ref (ma 47), .ref (ma 48), .int 0, .int 0, .int 0, .int 0, .int 0, .int 0, .int 0, .int 0, .int 0, .int 0, .ref (ma 59), .ref (ma 60), .int 0, .int 0, .int 0, .int 0, .int 0, .int 0, .ref (ma 67), .ref (ma 68), .ref (ma 69), .int 0, .int (-1), .int 0, .ref (ma 73)])), ((ma 1), .inl (cy 0, 1600, .inl f242))] H := hP
      have hD : va_D A [(hm, .inr (12, [.int 0, .ref (ma 1), .int 5, .int (-1), .ref (ma 4), .int 0, .int 0, .int 0, .long 0, .int 0, .int 0, .int 0, .int 0, .long 0, .int 0, .int 0, .int 0, .ref (ma 17), .ref (ma 18), .ref (ma 19), .ref (ma 20), .ref (ma 21), .ref (ma 22), .ref (ma 23), .ref (ma 24), .ref (ma 25), .ref (ma 26), .ref (ma 27), .ref (ma 28), .ref (ma 29), .ref (ma 30), .ref (ma 31), .ref (ma 32), .ref (ma 33), .ref (ma 34), .ref (ma 35), .ref (ma 36), .ref (ma 37), .ref (ma 38), .ref (ma 39), .ref (ma 40), .ref (ma 41), .ref (ma 42), .ref (ma 43), .ref (ma 44), .ref (ma 45), .ref (ma 46), .ref (ma 47), .ref (ma 48), .int 0, .int 0, .int 0, .int 0, .int 0, .int 0, .int 0, .int 0, .int 0, .int 0, .ref (ma 59), .ref (ma 60), .int 0, .int 0, .int 0, .int 0, .int 0, .int 0, .ref (ma 67), .ref (ma 68), .ref (ma 69), .int 0, .int (-1), .int 0, .ref (ma 73)])), ((ma 1), .inl (cy 0, 1600, .inl f242))] := hD
      refine lv_iinc (v := 0) (lv' := [(4, .int 0), (0, .ref hm), (1, .long p0), (3, .int (nI 6))]) hx hb dX12_feed_72 hl (k := 0) rfl (by decide) (by decide) rfl (fun ls hl => ?_)
      refine lv_goto (tgt := 39) hx hb dX12_feed_75 (by decide) ?_
      refine lv_iload hx hb dX12_feed_39 (lv_at hl 0 rfl) ?_
      refine lv_if_lt (tgt := 78) hx hb dX12_feed_41 (by decide) (fun c9 => absurd c9 (by decide)) (fun _ => ?_)
      refine lv_aload_n hx hb dX12_feed_44 rfl (lv_at hl 1 rfl) ?_
      refine va_get (D := D) (ci := 12) (v := .ref (ma 1)) (C := RX12) (T := TX12) (N := 74) hx hb hT i_TX12 hown hK hP 0 rfl rfl 1 (by decide) (hT _ t_1716) (fun _ h9 => h9) rfl dX12_feed_45 ?_
      refine lv_aload_n hx hb dX12_feed_48 rfl (lv_at hl 1 rfl) ?_
      refine va_get (D := D) (ci := 12) (v := .int 5) (C := RX12) (T := TX12) (N := 74) hx hb hT i_TX12 hown hK hP 0 rfl rfl 2 (by decide) (hT _ t_1717) (fun _ h9 => h9) rfl dX12_feed_49 ?_
      refine lv_lload_n hx hb dX12_feed_52 rfl (lv_at hl 2 rfl) ?_
      refine lv_bipush (v := 8) hx hb dX12_feed_53 (by decide) ?_
      refine lv_iload hx hb dX12_feed_55 (lv_at hl 0 rfl) ?_
      refine lv_imul hx hb dX12_feed_57 ?_
      refine lv_topi (fun z245 e246 => ?_)
      obtain rfl : z245 = 0 := e246.trans (by first | decide | rfl)
      refine lv_lshr hx hb dX12_feed_58 rfl ?_
      refine lv_topl (fun z247 e248 => ?_)
      refine lv_l2i hx hb dX12_feed_59 rfl ?_
      refine lv_topi (fun z249 e250 => ?_)
      refine lv_i2b hx hb dX12_feed_60 rfl ?_
      refine lv_topi (fun z251 e252 => ?_)
      refine va_bast hx hb hK hP hD hS 1 0 rfl rfl (vp_in_iff.mpr (by decide)) dX12_feed_61 (fun H locs hP hD hS => ?_)
      have hP : va_P D vwCl [(hm, .inr (12, [.int 0, .ref (ma 1), .int 5, .int (-1), .ref (ma 4), .int 0, .int 0, .int 0, .long 0, .int 0, .int 0, .int 0, .int 0, .long 0, .int 0, .int 0, .int 0, .ref (ma 17), .ref (ma 18), .ref (ma 19), .ref (ma 20), .ref (ma 21), .ref (ma 22), .ref (ma 23), .ref (ma 24), .ref (ma 25), .ref (ma 26), .ref (ma 27), .ref (ma 28), .ref (ma 29), .ref (ma 30), .ref (ma 31), .ref (ma 32), .ref (ma 33), .ref (ma 34), .ref (ma 35), .ref (ma 36), .ref (ma 37), .ref (ma 38), .ref (ma 39), .ref (ma 40), .ref (ma 41), .ref (ma 42), .ref (ma 43), .ref (ma 44), .ref (ma 45), .ref (ma 46), .ref (ma 47), .ref (ma 48), .int 0, .int 0, .int 0, .int 0, .int 0, .int 0, .int 0, .int 0, .int 0, .int 0, .ref (ma 59), .ref (ma 60), .int 0, .int 0, .int 0, .int 0, .int 0, .int 0, .ref (ma 67), .ref (ma 68), .ref (ma 69), .int 0, .int (-1), .int 0, .ref (ma 73)])), ((ma 1), .inl (cy 0, 1600, .inl (upd f242 (5 : Int32).toNatClampNeg (vp_nar .byte z251))))] H := hP
      have hD : va_D A [(hm, .inr (12, [.int 0, .ref (ma 1), .int 5, .int (-1), .ref (ma 4), .int 0, .int 0, .int 0, .long 0, .int 0, .int 0, .int 0, .int 0, .long 0, .int 0, .int 0, .int 0, .ref (ma 17), .ref (ma 18), .ref (ma 19), .ref (ma 20), .ref (ma 21), .ref (ma 22), .ref (ma 23), .ref (ma 24), .ref (ma 25), .ref (ma 26), .ref (ma 27), .ref (ma 28), .ref (ma 29), .ref (ma 30), .ref (ma 31), .ref (ma 32), .ref (ma 33), .ref (ma 34), .ref (ma 35), .ref (ma 36), .ref (ma 37), .ref (ma 38), .ref (ma 39), .ref (ma 40), .ref (ma 41), .ref (ma 42), .ref (ma 43), .ref (ma 44), .ref (ma 45), .ref (ma 46), .ref (ma 47), .ref (ma 48), .int 0, .int 0, .int 0, .int 0, .int 0, .int 0, .int 0, .int 0, .int 0, .int 0, .ref (ma 59), .ref (ma 60), .int 0, .int 0, .int 0, .int 0, .int 0, .int 0, .ref (ma 67), .ref (ma 68), .ref (ma 69), .int 0, .int (-1), .int 0, .ref (ma 73)])), ((ma 1), .inl (cy 0, 1600, .inl (upd f242 (5 : Int32).toNatClampNeg (vp_nar .byte z251))))] := hD
      generalize hff253 : (upd f242 (5 : Int32).toNatClampNeg (vp_nar .byte z251)) = f253 at hP hD
      refine lv_aload_n hx hb dX12_feed_62 rfl (lv_at hl 1 rfl) ?_
      refine lv_dup hx hb dX12_feed_63 rfl ?_
      refine va_get (D := D) (ci := 12) (v := .int 5) (C := RX12) (T := TX12) (N := 74) hx hb hT i_TX12 hown hK hP 0 rfl rfl 2 (by decide) (hT _ t_1717) (fun _ h9 => h9) rfl dX12_feed_64 ?_
      refine lv_iconst (v := 1) hx hb dX12_feed_67 (by decide) ?_
      refine lv_iadd hx hb dX12_feed_68 ?_
      refine lv_topi (fun z254 e255 => ?_)
      obtain rfl : z254 = 6 := e255.trans (by first | decide | rfl)
      refine va_put (D := D) (ci := 12) (v := .int 6) (ty := .int) (C := RX12) (T := TX12) (N := 74) hx hb hT i_TX12 tyX12 tyX12_ok nmX12 hown hK hP hD hS 0 rfl rfl 2 (by decide) (hT _ t_1717) (fun _ h9 => h9) rfl (by decide +kernel) rfl rfl (Nat.le_of_ble_eq_true rfl) dX12_feed_69 (fun H locs hP hD hS => ?_)
      have hP : va_P D vwCl [(hm, .inr (12, [.int 0, .ref (ma 1), .int 6, .int (-1), .ref (ma 4), .int 0, .int 0, .int 0, .long 0, .int 0, .int 0, .int 0, .int 0, .long 0, .int 0, .int 0, .int 0, .ref (ma 17), .ref (ma 18), .ref (ma 19), .ref (ma 20), .ref (ma 21), .ref (ma 22), .ref (ma 23), .ref (ma 24), .ref (ma 25), .ref (ma 26), .ref (ma 27), .ref (ma 28), .ref (ma 29), .ref (ma 30), .ref (ma 31), .ref (ma 32), .ref (ma 33), .ref (ma 34), .ref (ma 35), .ref (ma 36), .ref (ma 37), .ref (ma 38), .ref (ma 39), .ref (ma 40), .ref (ma 41), .ref (ma 42), .ref (ma 43), .ref (ma 44), .ref (ma 45), .ref (ma 46), .ref (ma 47), .ref (ma 48), .int 0, .int 0, .int 0, .int 0, .int 0, .int 0, .int 0, .int 0, .int 0, .int 0, .ref (ma 59), .ref (ma 60), .int 0, .int 0, .int 0, .int 0, .int 0, .int 0, .ref (ma 67), .ref (ma 68), .ref (ma 69), .int 0, .int (-1), .int 0, .ref (ma 73)])), ((ma 1), .inl (cy 0, 1600, .inl f253))] H := hP
      have hD : va_D A [(hm, .inr (12, [.int 0, .ref (ma 1), .int 6, .int (-1), .ref (ma 4), .int 0, .int 0, .int 0, .long 0, .int 0, .int 0, .int 0, .int 0, .long 0, .int 0, .int 0, .int 0, .ref (ma 17), .ref (ma 18), .ref (ma 19), .ref (ma 20), .ref (ma 21), .ref (ma 22), .ref (ma 23), .ref (ma 24), .ref (ma 25), .ref (ma 26), .ref (ma 27), .ref (ma 28), .ref (ma 29), .ref (ma 30), .ref (ma 31), .ref (ma 32), .ref (ma 33), .ref (ma 34), .ref (ma 35), .ref (ma 36), .ref (ma 37), .ref (ma 38), .ref (ma 39), .ref (ma 40), .ref (ma 41), .ref (ma 42), .ref (ma 43), .ref (ma 44), .ref (ma 45), .ref (ma 46), .ref (ma 47), .ref (ma 48), .int 0, .int 0, .int 0, .int 0, .int 0, .int 0, .int 0, .int 0, .int 0, .int 0, .ref (ma 59), .ref (ma 60), .int 0, .int 0, .int 0, .int 0, .int 0, .int 0, .ref (ma 67), .ref (ma 68), .ref (ma 69), .int 0, .int (-1), .int 0, .ref (ma 73)])), ((ma 1), .inl (cy 0, 1600, .inl f253))] := hD
      refine lv_iinc (v := (-1)) (lv' := [(4, .int (-1)), (0, .ref hm), (1, .long p0), (3, .int (nI 6))]) hx hb dX12_feed_72 hl (k := 0) rfl (by decide) (by decide) rfl (fun ls hl => ?_)
      refine lv_goto (tgt := 39) hx hb dX12_feed_75 (by decide) ?_
      refine lv_iload hx hb dX12_feed_39 (lv_at hl 0 rfl) ?_
      refine lv_if_lt (tgt := 78) hx hb dX12_feed_41 (by decide) (fun _ => ?_) (fun c9 => absurd (by decide) c9)
      refine lv_aload_n hx hb dX12_feed_78 rfl (lv_at hl 1 rfl) ?_
      refine va_get (D := D) (ci := 12) (v := .int 6) (C := RX12) (T := TX12) (N := 74) hx hb hT i_TX12 hown hK hP 0 rfl rfl 2 (by decide) (hT _ t_1717) (fun _ h9 => h9) rfl dX12_feed_79 ?_
      have hP9 := hP.sub (ws' := []) [] rfl
      have hD9 := hD.sub (ws' := []) [] (by decide) rfl
      refine W.widen (k := 0) (n := 0) (Nat.le_of_ble_eq_true rfl) (Nat.le_of_ble_eq_true rfl) ?_
      exact W.iret (v := 6) hx hb hr (fun t ht hW => ⟨⟨6, (), rfl, (by decide), by rw [ht]; exact hP9, hD9⟩, hS.F ht⟩) hS.2.2 dX12_feed_82
    · refine lv_aload_n hx hb dX12_feed_0 rfl (lv_at hl 0 rfl) ?_
      refine lv_iconst (v := 0) hx hb dX12_feed_1 (by decide) ?_
      refine va_put (D := D) (ci := 12) (v := .int 0) (ty := .int) (C := RX12) (T := TX12) (N := 74) hx hb hT i_TX12 tyX12 tyX12_ok nmX12 hown hK hP hD hS 0 rfl rfl 0 (by decide) (hT _ t_1715) (fun _ h9 => h9) rfl (by decide +kernel) rfl rfl (Nat.le_of_ble_eq_true rfl) dX12_feed_2 (fun H locs hP hD hS => ?_)
      have hP : va_P D vwCl [(hm, .inr (12, [.int 0, .ref (ma 1), .int 0, .int (-1), .ref (ma 4), .int 0, .int 0, .int 0, .long 0, .int 0, .int 0, .int 0, .int 0, .long 0, .int 0, .int 0, .int 0, .ref (ma 17), .ref (ma 18), .ref (ma 19), .ref (ma 20), .ref (ma 21), .ref (ma 22), .ref (ma 23), .ref (ma 24), .ref (ma 25), .ref (ma 26), .ref (ma 27), .ref (ma 28), .ref (ma 29), .ref (ma 30), .ref (ma 31), .ref (ma 32), .ref (ma 33), .ref (ma 34), .ref (ma 35), .ref (ma 36), .ref (ma 37), .ref (ma 38), .ref (ma 39), .ref (ma 40), .ref (ma 41), .ref (ma 42), .ref (ma 43), .ref (ma 44), .ref (ma 45), .ref (ma 46), .ref (ma 47), .ref (ma 48), .int 0, .int 0, .int 0, .int 0, .int 0, .int 0, .int 0, .int 0, .int 0, .int 0, .ref (ma 59), .ref (ma 60), .int 0, .int 0, .int 0, .int 0, .int 0, .int 0, .ref (ma 67), .ref (ma 68), .ref (ma 69), .int 0, .int (-1), .int 0, .ref (ma 73)])), ((ma 1), .inl (cy 0, 1600, .inl (fun _ => 0)))] H := hP
      have hD : va_D A [(hm, .inr (12, [.int 0, .ref (ma 1), .int 0, .int (-1), .ref (ma 4), .int 0, .int 0, .int 0, .long 0, .int 0, .int 0, .int 0, .int 0, .long 0, .int 0, .int 0, .int 0, .ref (ma 17), .ref (ma 18), .ref (ma 19), .ref (ma 20), .ref (ma 21), .ref (ma 22), .ref (ma 23), .ref (ma 24), .ref (ma 25), .ref (ma 26), .ref (ma 27), .ref (ma 28), .ref (ma 29), .ref (ma 30), .ref (ma 31), .ref (ma 32), .ref (ma 33), .ref (ma 34), .ref (ma 35), .ref (ma 36), .ref (ma 37), .ref (ma 38), .ref (ma 39), .ref (ma 40), .ref (ma 41), .ref (ma 42), .ref (ma 43), .ref (ma 44), .ref (ma 45), .ref (ma 46), .ref (ma 47), .ref (ma 48), .int 0, .int 0, .int 0, .int 0, .int 0, .int 0, .int 0, .int 0, .int 0, .int 0, .ref (ma 59), .ref (ma 60), .int 0, .int 0, .int 0, .int 0, .int 0, .int 0, .ref (ma 67), .ref (ma 68), .ref (ma 69), .int 0, .int (-1), .int 0, .ref (ma 73)])), ((ma 1), .inl (cy 0, 1600, .inl (fun _ => 0)))] := hD
      refine lv_iload_n hx hb dX12_feed_5 rfl (lv_at hl 2 rfl) ?_
      refine lv_iconst (v := 1) hx hb dX12_feed_6 (by decide) ?_
      refine lv_icmp_lt (tgt := 16) hx hb dX12_feed_7 (by decide) (fun c9 => absurd c9 (by decide)) (fun _ => ?_)
      refine lv_iload_n hx hb dX12_feed_10 rfl (lv_at hl 2 rfl) ?_
      refine lv_bipush (v := 8) hx hb dX12_feed_11 (by decide) ?_
      refine lv_icmp_le (tgt := 19) hx hb dX12_feed_13 (by decide) (fun _ => ?_) (fun c9 => absurd (by decide) c9)
      refine lv_aload_n hx hb dX12_feed_19 rfl (lv_at hl 0 rfl) ?_
      refine va_get (D := D) (ci := 12) (v := .int 0) (C := RX12) (T := TX12) (N := 74) hx hb hT i_TX12 hown hK hP 0 rfl rfl 2 (by decide) (hT _ t_1717) (fun _ h9 => h9) rfl dX12_feed_20 ?_
      refine lv_iload_n hx hb dX12_feed_23 rfl (lv_at hl 2 rfl) ?_
      refine lv_iadd hx hb dX12_feed_24 ?_
      refine lv_topi (fun z256 e257 => ?_)
      obtain rfl : z256 = 7 := e257.trans (by first | decide | rfl)
      refine lv_sipush (v := 1600) hx hb dX12_feed_25 (by decide) ?_
      refine lv_icmp_le (tgt := 34) hx hb dX12_feed_28 (by decide) (fun _ => ?_) (fun c9 => absurd (by decide) c9)
      refine lv_iload_n hx hb dX12_feed_34 rfl (lv_at hl 2 rfl) ?_
      refine lv_iconst (v := 1) hx hb dX12_feed_35 (by decide) ?_
      refine lv_isub hx hb dX12_feed_36 ?_
      refine lv_topi (fun z258 e259 => ?_)
      obtain rfl : z258 = 6 := e259.trans (by first | decide | rfl)
      refine lv_istore (lv' := [(4, .int 6), (0, .ref hm), (1, .long p0), (3, .int (nI 7))]) hx hb dX12_feed_37 hl (by decide) rfl (fun ls hl => ?_)
      refine lv_iload hx hb dX12_feed_39 (lv_at hl 0 rfl) ?_
      refine lv_if_lt (tgt := 78) hx hb dX12_feed_41 (by decide) (fun c9 => absurd c9 (by decide)) (fun _ => ?_)
      refine lv_aload_n hx hb dX12_feed_44 rfl (lv_at hl 1 rfl) ?_
      refine va_get (D := D) (ci := 12) (v := .ref (ma 1)) (C := RX12) (T := TX12) (N := 74) hx hb hT i_TX12 hown hK hP 0 rfl rfl 1 (by decide) (hT _ t_1716) (fun _ h9 => h9) rfl dX12_feed_45 ?_
      refine lv_aload_n hx hb dX12_feed_48 rfl (lv_at hl 1 rfl) ?_
      refine va_get (D := D) (ci := 12) (v := .int 0) (C := RX12) (T := TX12) (N := 74) hx hb hT i_TX12 hown hK hP 0 rfl rfl 2 (by decide) (hT _ t_1717) (fun _ h9 => h9) rfl dX12_feed_49 ?_
      refine lv_lload_n hx hb dX12_feed_52 rfl (lv_at hl 2 rfl) ?_
      refine lv_bipush (v := 8) hx hb dX12_feed_53 (by decide) ?_
      refine lv_iload hx hb dX12_feed_55 (lv_at hl 0 rfl) ?_
      refine lv_imul hx hb dX12_feed_57 ?_
      refine lv_topi (fun z260 e261 => ?_)
      obtain rfl : z260 = 48 := e261.trans (by first | decide | rfl)
      refine lv_lshr hx hb dX12_feed_58 rfl ?_
      refine lv_topl (fun z262 e263 => ?_)
      refine lv_l2i hx hb dX12_feed_59 rfl ?_
      refine lv_topi (fun z264 e265 => ?_)
      refine lv_i2b hx hb dX12_feed_60 rfl ?_
      refine lv_topi (fun z266 e267 => ?_)
      refine va_bast hx hb hK hP hD hS 1 0 rfl rfl (vp_in_iff.mpr (by decide)) dX12_feed_61 (fun H locs hP hD hS => ?_)
      have hP : va_P D vwCl [(hm, .inr (12, [.int 0, .ref (ma 1), .int 0, .int (-1), .ref (ma 4), .int 0, .int 0, .int 0, .long 0, .int 0, .int 0, .int 0, .int 0, .long 0, .int 0, .int 0, .int 0, .ref (ma 17), .ref (ma 18), .ref (ma 19), .ref (ma 20), .ref (ma 21), .ref (ma 22), .ref (ma 23), .ref (ma 24), .ref (ma 25), .ref (ma 26), .ref (ma 27), .ref (ma 28), .ref (ma 29), .ref (ma 30), .ref (ma 31), .ref (ma 32), .ref (ma 33), .ref (ma 34), .ref (ma 35), .ref (ma 36), .ref (ma 37), .ref (ma 38), .ref (ma 39), .ref (ma 40), .ref (ma 41), .ref (ma 42), .ref (ma 43), .ref (ma 44), .ref (ma 45), .ref (ma 46), .ref (ma 47), .ref (ma 48), .int 0, .int 0, .int 0, .int 0, .int 0, .int 0, .int 0, .int 0, .int 0, .int 0, .ref (ma 59), .ref (ma 60), .int 0, .int 0, .int 0, .int 0, .int 0, .int 0, .ref (ma 67), .ref (ma 68), .ref (ma 69), .int 0, .int (-1), .int 0, .ref (ma 73)])), ((ma 1), .inl (cy 0, 1600, .inl (upd (fun _ => 0) (0 : Int32).toNatClampNeg (vp_nar .byte z266))))] H := hP
      have hD : va_D A [(hm, .inr (12, [.int 0, .ref (ma 1), .int 0, .int (-1), .ref (ma 4), .int 0, .int 0, .int 0, .long 0, .int 0, .int 0, .int 0, .int 0, .long 0, .int 0, .int 0, .int 0, .ref (ma 17), .ref (ma 18), .ref (ma 19), .ref (ma 20), .ref (ma 21), .ref (ma 22), .ref (ma 23), .ref (ma 24), .ref (ma 25), .ref (ma 26), .ref (ma 27), .ref (ma 28), .ref (ma 29), .ref (ma 30), .ref (ma 31), .ref (ma 32), .ref (ma 33), .ref (ma 34), .ref (ma 35), .ref (ma 36), .ref (ma 37), .ref (ma 38), .ref (ma 39), .ref (ma 40), .ref (ma 41), .ref (ma 42), .ref (ma 43), .ref (ma 44), .ref (ma 45), .ref (ma 46), .ref (ma 47), .ref (ma 48), .int 0, .int 0, .int 0, .int 0, .int 0, .int 0, .int 0, .int 0, .int 0, .int 0, .ref (ma 59), .ref (ma 60), .int 0, .int 0, .int 0, .int 0, .int 0, .int 0, .ref (ma 67), .ref (ma 68), .ref (ma 69), .int 0, .int (-1), .int 0, .ref (ma 73)])), ((ma 1), .inl (cy 0, 1600, .inl (upd (fun _ => 0) (0 : Int32).toNatClampNeg (vp_nar .byte z266))))] := hD
      generalize hff268 : (upd (fun _ => 0) (0 : Int32).toNatClampNeg (vp_nar .byte z266)) = f268 at hP hD
      refine lv_aload_n hx hb dX12_feed_62 rfl (lv_at hl 1 rfl) ?_
      refine lv_dup hx hb dX12_feed_63 rfl ?_
      refine va_get (D := D) (ci := 12) (v := .int 0) (C := RX12) (T := TX12) (N := 74) hx hb hT i_TX12 hown hK hP 0 rfl rfl 2 (by decide) (hT _ t_1717) (fun _ h9 => h9) rfl dX12_feed_64 ?_
      refine lv_iconst (v := 1) hx hb dX12_feed_67 (by decide) ?_
      refine lv_iadd hx hb dX12_feed_68 ?_
      refine lv_topi (fun z269 e270 => ?_)
      obtain rfl : z269 = 1 := e270.trans (by first | decide | rfl)
      refine va_put (D := D) (ci := 12) (v := .int 1) (ty := .int) (C := RX12) (T := TX12) (N := 74) hx hb hT i_TX12 tyX12 tyX12_ok nmX12 hown hK hP hD hS 0 rfl rfl 2 (by decide) (hT _ t_1717) (fun _ h9 => h9) rfl (by decide +kernel) rfl rfl (Nat.le_of_ble_eq_true rfl) dX12_feed_69 (fun H locs hP hD hS => ?_)
      have hP : va_P D vwCl [(hm, .inr (12, [.int 0, .ref (ma 1), .int 1, .int (-1), .ref (ma 4), .int 0, .int 0, .int 0, .long 0, .int 0, .int 0, .int 0, .int 0, .long 0, .int 0, .int 0, .int 0, .ref (ma 17), .ref (ma 18), .ref (ma 19), .ref (ma 20), .ref (ma 21), .ref (ma 22), .ref (ma 23), .ref (ma 24), .ref (ma 25), .ref (ma 26), .ref (ma 27), .ref (ma 28), .ref (ma 29), .ref (ma 30), .ref (ma 31), .ref (ma 32), .ref (ma 33), .ref (ma 34), .ref (ma 35), .ref (ma 36), .ref (ma 37), .ref (ma 38), .ref (ma 39), .ref (ma 40), .ref (ma 41), .ref (ma 42), .ref (ma 43), .ref (ma 44), .ref (ma 45), .ref (ma 46), .ref (ma 47), .ref (ma 48), .int 0, .int 0, .int 0, .int 0, .int 0, .int 0, .int 0, .int 0, .int 0, .int 0, .ref (ma 59), .ref (ma 60), .int 0, .int 0, .int 0, .int 0, .int 0, .int 0, .ref (ma 67), .ref (ma 68), .ref (ma 69), .int 0, .int (-1), .int 0, .ref (ma 73)])), ((ma 1), .inl (cy 0, 1600, .inl f268))] H := hP
      have hD : va_D A [(hm, .inr (12, [.int 0, .ref (ma 1), .int 1, .int (-1), .ref (ma 4), .int 0, .int 0, .int 0, .long 0, .int 0, .int 0, .int 0, .int 0, .long 0, .int 0, .int 0, .int 0, .ref (ma 17), .ref (ma 18), .ref (ma 19), .ref (ma 20), .ref (ma 21), .ref (ma 22), .ref (ma 23), .ref (ma 24), .ref (ma 25), .ref (ma 26), .ref (ma 27), .ref (ma 28), .ref (ma 29), .ref (ma 30), .ref (ma 31), .ref (ma 32), .ref (ma 33), .ref (ma 34), .ref (ma 35), .ref (ma 36), .ref (ma 37), .ref (ma 38), .ref (ma 39), .ref (ma 40), .ref (ma 41), .ref (ma 42), .ref (ma 43), .ref (ma 44), .ref (ma 45), .ref (ma 46), .ref (ma 47), .ref (ma 48), .int 0, .int 0, .int 0, .int 0, .int 0, .int 0, .int 0, .int 0, .int 0, .int 0, .ref (ma 59), .ref (ma 60), .int 0, .int 0, .int 0, .int 0, .int 0, .int 0, .ref (ma 67), .ref (ma 68), .ref (ma 69), .int 0, .int (-1), .int 0, .ref (ma 73)])), ((ma 1), .inl (cy 0, 1600, .inl f268))] := hD
      refine lv_iinc (v := 5) (lv' := [(4, .int 5), (0, .ref hm), (1, .long p0), (3, .int (nI 7))]) hx hb dX12_feed_72 hl (k := 0) rfl (by decide) (by decide) rfl (fun ls hl => ?_)
      refine lv_goto (tgt := 39) hx hb dX12_feed_75 (by decide) ?_
      refine lv_iload hx hb dX12_feed_39 (lv_at hl 0 rfl) ?_
      refine lv_if_lt (tgt := 78) hx hb dX12_feed_41 (by decide) (fun c9 => absurd c9 (by decide)) (fun _ => ?_)
      refine lv_aload_n hx hb dX12_feed_44 rfl (lv_at hl 1 rfl) ?_
      refine va_get (D := D) (ci := 12) (v := .ref (ma 1)) (C := RX12) (T := TX12) (N := 74) hx hb hT i_TX12 hown hK hP 0 rfl rfl 1 (by decide) (hT _ t_1716) (fun _ h9 => h9) rfl dX12_feed_45 ?_
      refine lv_aload_n hx hb dX12_feed_48 rfl (lv_at hl 1 rfl) ?_
      refine va_get (D := D) (ci := 12) (v := .int 1) (C := RX12) (T := TX12) (N := 74) hx hb hT i_TX12 hown hK hP 0 rfl rfl 2 (by decide) (hT _ t_1717) (fun _ h9 => h9) rfl dX12_feed_49 ?_
      refine lv_lload_n hx hb dX12_feed_52 rfl (lv_at hl 2 rfl) ?_
      refine lv_bipush (v := 8) hx hb dX12_feed_53 (by decide) ?_
      refine lv_iload hx hb dX12_feed_55 (lv_at hl 0 rfl) ?_
      refine lv_imul hx hb dX12_feed_57 ?_
      refine lv_topi (fun z271 e272 => ?_)
      obtain rfl : z271 = 40 := e272.trans (by first | decide | rfl)
      refine lv_lshr hx hb dX12_feed_58 rfl ?_
      refine lv_topl (fun z273 e274 => ?_)
      refine lv_l2i hx hb dX12_feed_59 rfl ?_
      refine lv_topi (fun z275 e276 => ?_)
      refine lv_i2b hx hb dX12_feed_60 rfl ?_
      refine lv_topi (fun z277 e278 => ?_)
      refine va_bast hx hb hK hP hD hS 1 0 rfl rfl (vp_in_iff.mpr (by decide)) dX12_feed_61 (fun H locs hP hD hS => ?_)
      have hP : va_P D vwCl [(hm, .inr (12, [.int 0, .ref (ma 1), .int 1, .int (-1), .ref (ma 4), .int 0, .int 0, .int 0, .long 0, .int 0, .int 0, .int 0, .int 0, .long 0, .int 0, .int 0, .int 0, .ref (ma 17), .ref (ma 18), .ref (ma 19), .ref (ma 20), .ref (ma 21), .ref (ma 22), .ref (ma 23), .ref (ma 24), .ref (ma 25), .ref (ma 26), .ref (ma 27), .ref (ma 28), .ref (ma 29), .ref (ma 30), .ref (ma 31), .ref (ma 32), .ref (ma 33), .ref (ma 34), .ref (ma 35), .ref (ma 36), .ref (ma 37), .ref (ma 38), .ref (ma 39), .ref (ma 40), .ref (ma 41), .ref (ma 42), .ref (ma 43), .ref (ma 44), .ref (ma 45), .ref (ma 46), .ref (ma 47), .ref (ma 48), .int 0, .int 0, .int 0, .int 0, .int 0, .int 0, .int 0, .int 0, .int 0, .int 0, .ref (ma 59), .ref (ma 60), .int 0, .int 0, .int 0, .int 0, .int 0, .int 0, .ref (ma 67), .ref (ma 68), .ref (ma 69), .int 0, .int (-1), .int 0, .ref (ma 73)])), ((ma 1), .inl (cy 0, 1600, .inl (upd f268 (1 : Int32).toNatClampNeg (vp_nar .byte z277))))] H := hP
      have hD : va_D A [(hm, .inr (12, [.int 0, .ref (ma 1), .int 1, .int (-1), .ref (ma 4), .int 0, .int 0, .int 0, .long 0, .int 0, .int 0, .int 0, .int 0, .long 0, .int 0, .int 0, .int 0, .ref (ma 17), .ref (ma 18), .ref (ma 19), .ref (ma 20), .ref (ma 21), .ref (ma 22), .ref (ma 23), .ref (ma 24), .ref (ma 25), .ref (ma 26), .ref (ma 27), .ref (ma 28), .ref (ma 29), .ref (ma 30), .ref (ma 31), .ref (ma 32), .ref (ma 33), .ref (ma 34), .ref (ma 35), .ref (ma 36), .ref (ma 37), .ref (ma 38), .ref (ma 39), .ref (ma 40), .ref (ma 41), .ref (ma 42), .ref (ma 43), .ref (ma 44), .ref (ma 45), .ref (ma 46), .ref (ma 47), .ref (ma 48), .int 0, .int 0, .int 0, .int 0, .int 0, .int 0, .int 0, .int 0, .int 0, .int 0, .ref (ma 59), .ref (ma 60), .int 0, .int 0, .int 0, .int 0, .int 0, .int 0, .ref (ma 67), .ref (ma 68), .ref (ma 69), .int 0, .int (-1), .int 0, .ref (ma 73)])), ((ma 1), .inl (cy 0, 1600, .inl (upd f268 (1 : Int32).toNatClampNeg (vp_nar .byte z277))))] := hD
      generalize hff279 : (upd f268 (1 : Int32).toNatClampNeg (vp_nar .byte z277)) = f279 at hP hD
      refine lv_aload_n hx hb dX12_feed_62 rfl (lv_at hl 1 rfl) ?_
      refine lv_dup hx hb dX12_feed_63 rfl ?_
      refine va_get (D := D) (ci := 12) (v := .int 1) (C := RX12) (T := TX12) (N := 74) hx hb hT i_TX12 hown hK hP 0 rfl rfl 2 (by decide) (hT _ t_1717) (fun _ h9 => h9) rfl dX12_feed_64 ?_
      refine lv_iconst (v := 1) hx hb dX12_feed_67 (by decide) ?_
      refine lv_iadd hx hb dX12_feed_68 ?_
      refine lv_topi (fun z280 e281 => ?_)
      obtain rfl : z280 = 2 := e281.trans (by first | decide | rfl)
      refine va_put (D := D) (ci := 12) (v := .int 2) (ty := .int) (C := RX12) (T := TX12) (N := 74) hx hb hT i_TX12 tyX12 tyX12_ok nmX12 hown hK hP hD hS 0 rfl rfl 2 (by decide) (hT _ t_1717) (fun _ h9 => h9) rfl (by decide +kernel) rfl rfl (Nat.le_of_ble_eq_true rfl) dX12_feed_69 (fun H locs hP hD hS => ?_)
      have hP : va_P D vwCl [(hm, .inr (12, [.int 0, .ref (ma 1), .int 2, .int (-1), .ref (ma 4), .int 0, .int 0, .int 0, .long 0, .int 0, .int 0, .int 0, .int 0, .long 0, .int 0, .int 0, .int 0, .ref (ma 17), .ref (ma 18), .ref (ma 19), .ref (ma 20), .ref (ma 21), .ref (ma 22), .ref (ma 23), .ref (ma 24), .ref (ma 25), .ref (ma 26), .ref (ma 27), .ref (ma 28), .ref (ma 29), .ref (ma 30), .ref (ma 31), .ref (ma 32), .ref (ma 33), .ref (ma 34), .ref (ma 35), .ref (ma 36), .ref (ma 37), .ref (ma 38), .ref (ma 39), .ref (ma 40), .ref (ma 41), .ref (ma 42), .ref (ma 43), .ref (ma 44), .ref (ma 45), .ref (ma 46), .ref (ma 47), .ref (ma 48), .int 0, .int 0, .int 0, .int 0, .int 0, .int 0, .int 0, .int 0, .int 0, .int 0, .ref (ma 59), .ref (ma 60), .int 0, .int 0, .int 0, .int 0, .int 0, .int 0, .ref (ma 67), .ref (ma 68), .ref (ma 69), .int 0, .int (-1), .int 0, .ref (ma 73)])), ((ma 1), .inl (cy 0, 1600, .inl f279))] H := hP
      have hD : va_D A [(hm, .inr (12, [.int 0, .ref (ma 1), .int 2, .int (-1), .ref (ma 4), .int 0, .int 0, .int 0, .long 0, .int 0, .int 0, .int 0, .int 0, .long 0, .int 0, .int 0, .int 0, .ref (ma 17), .ref (ma 18), .ref (ma 19), .ref (ma 20), .ref (ma 21), .ref (ma 22), .ref (ma 23), .ref (ma 24), .ref (ma 25), .ref (ma 26), .ref (ma 27), .ref (ma 28), .ref (ma 29), .ref (ma 30), .ref (ma 31), .ref (ma 32), .ref (ma 33), .ref (ma 34), .ref (ma 35), .ref (ma 36), .ref (ma 37), .ref (ma 38), .ref (ma 39), .ref (ma 40), .ref (ma 41), .ref (ma 42), .ref (ma 43), .ref (ma 44), .ref (ma 45), .ref (ma 46), .ref (ma 47), .ref (ma 48), .int 0, .int 0, .int 0, .int 0, .int 0, .int 0, .int 0, .int 0, .int 0, .int 0, .ref (ma 59), .ref (ma 60), .int 0, .int 0, .int 0, .int 0, .int 0, .int 0, .ref (ma 67), .ref (ma 68), .ref (ma 69), .int 0, .int (-1), .int 0, .ref (ma 73)])), ((ma 1), .inl (cy 0, 1600, .inl f279))] := hD
      refine lv_iinc (v := 4) (lv' := [(4, .int 4), (0, .ref hm), (1, .long p0), (3, .int (nI 7))]) hx hb dX12_feed_72 hl (k := 0) rfl (by decide) (by decide) rfl (fun ls hl => ?_)
      refine lv_goto (tgt := 39) hx hb dX12_feed_75 (by decide) ?_
      refine lv_iload hx hb dX12_feed_39 (lv_at hl 0 rfl) ?_
      refine lv_if_lt (tgt := 78) hx hb dX12_feed_41 (by decide) (fun c9 => absurd c9 (by decide)) (fun _ => ?_)
      refine lv_aload_n hx hb dX12_feed_44 rfl (lv_at hl 1 rfl) ?_
      refine va_get (D := D) (ci := 12) (v := .ref (ma 1)) (C := RX12) (T := TX12) (N := 74) hx hb hT i_TX12 hown hK hP 0 rfl rfl 1 (by decide) (hT _ t_1716) (fun _ h9 => h9) rfl dX12_feed_45 ?_
      refine lv_aload_n hx hb dX12_feed_48 rfl (lv_at hl 1 rfl) ?_
      refine va_get (D := D) (ci := 12) (v := .int 2) (C := RX12) (T := TX12) (N := 74) hx hb hT i_TX12 hown hK hP 0 rfl rfl 2 (by decide) (hT _ t_1717) (fun _ h9 => h9) rfl dX12_feed_49 ?_
      refine lv_lload_n hx hb dX12_feed_52 rfl (lv_at hl 2 rfl) ?_
      refine lv_bipush (v := 8) hx hb dX12_feed_53 (by decide) ?_
      refine lv_iload hx hb dX12_feed_55 (lv_at hl 0 rfl) ?_
      refine lv_imul hx hb dX12_feed_57 ?_
      refine lv_topi (fun z282 e283 => ?_)
      obtain rfl : z282 = 32 := e283.trans (by first | decide | rfl)
      refine lv_lshr hx hb dX12_feed_58 rfl ?_
      refine lv_topl (fun z284 e285 => ?_)
      refine lv_l2i hx hb dX12_feed_59 rfl ?_
      refine lv_topi (fun z286 e287 => ?_)
      refine lv_i2b hx hb dX12_feed_60 rfl ?_
      refine lv_topi (fun z288 e289 => ?_)
      refine va_bast hx hb hK hP hD hS 1 0 rfl rfl (vp_in_iff.mpr (by decide)) dX12_feed_61 (fun H locs hP hD hS => ?_)
      have hP : va_P D vwCl [(hm, .inr (12, [.int 0, .ref (ma 1), .int 2, .int (-1), .ref (ma 4), .int 0, .int 0, .int 0, .long 0, .int 0, .int 0, .int 0, .int 0, .long 0, .int 0, .int 0, .int 0, .ref (ma 17), .ref (ma 18), .ref (ma 19), .ref (ma 20), .ref (ma 21), .ref (ma 22), .ref (ma 23), .ref (ma 24), .ref (ma 25), .ref (ma 26), .ref (ma 27), .ref (ma 28), .ref (ma 29), .ref (ma 30), .ref (ma 31), .ref (ma 32), .ref (ma 33), .ref (ma 34), .ref (ma 35), .ref (ma 36), .ref (ma 37), .ref (ma 38), .ref (ma 39), .ref (ma 40), .ref (ma 41), .ref (ma 42), .ref (ma 43), .ref (ma 44), .ref (ma 45), .ref (ma 46), .ref (ma 47), .ref (ma 48), .int 0, .int 0, .int 0, .int 0, .int 0, .int 0, .int 0, .int 0, .int 0, .int 0, .ref (ma 59), .ref (ma 60), .int 0, .int 0, .int 0, .int 0, .int 0, .int 0, .ref (ma 67), .ref (ma 68), .ref (ma 69), .int 0, .int (-1), .int 0, .ref (ma 73)])), ((ma 1), .inl (cy 0, 1600, .inl (upd f279 (2 : Int32).toNatClampNeg (vp_nar .byte z288))))] H := hP
      have hD : va_D A [(hm, .inr (12, [.int 0, .ref (ma 1), .int 2, .int (-1), .ref (ma 4), .int 0, .int 0, .int 0, .long 0, .int 0, .int 0, .int 0, .int 0, .long 0, .int 0, .int 0, .int 0, .ref (ma 17), .ref (ma 18), .ref (ma 19), .ref (ma 20), .ref (ma 21), .ref (ma 22), .ref (ma 23), .ref (ma 24), .ref (ma 25), .ref (ma 26), .ref (ma 27), .ref (ma 28), .ref (ma 29), .ref (ma 30), .ref (ma 31), .ref (ma 32), .ref (ma 33), .ref (ma 34), .ref (ma 35), .ref (ma 36), .ref (ma 37), .ref (ma 38), .ref (ma 39), .ref (ma 40), .ref (ma 41), .ref (ma 42), .ref (ma 43), .ref (ma 44), .ref (ma 45), .ref (ma 46), .ref (ma 47), .ref (ma 48), .int 0, .int 0, .int 0, .int 0, .int 0, .int 0, .int 0, .int 0, .int 0, .int 0, .ref (ma 59), .ref (ma 60), .int 0, .int 0, .int 0, .int 0, .int 0, .int 0, .ref (ma 67), .ref (ma 68), .ref (ma 69), .int 0, .int (-1), .int 0, .ref (ma 73)])), ((ma 1), .inl (cy 0, 1600, .inl (upd f279 (2 : Int32).toNatClampNeg (vp_nar .byte z288))))] := hD
      generalize hff290 : (upd f279 (2 : Int32).toNatClampNeg (vp_nar .byte z288)) = f290 at hP hD
      refine lv_aload_n hx hb dX12_feed_62 rfl (lv_at hl 1 rfl) ?_
      refine lv_dup hx hb dX12_feed_63 rfl ?_
      refine va_get (D := D) (ci := 12) (v := .int 2) (C := RX12) (T := TX12) (N := 74) hx hb hT i_TX12 hown hK hP 0 rfl rfl 2 (by decide) (hT _ t_1717) (fun _ h9 => h9) rfl dX12_feed_64 ?_
      refine lv_iconst (v := 1) hx hb dX12_feed_67 (by decide) ?_
      refine lv_iadd hx hb dX12_feed_68 ?_
      refine lv_topi (fun z291 e292 => ?_)
      obtain rfl : z291 = 3 := e292.trans (by first | decide | rfl)
      refine va_put (D := D) (ci := 12) (v := .int 3) (ty := .int) (C := RX12) (T := TX12) (N := 74) hx hb hT i_TX12 tyX12 tyX12_ok nmX12 hown hK hP hD hS 0 rfl rfl 2 (by decide) (hT _ t_1717) (fun _ h9 => h9) rfl (by decide +kernel) rfl rfl (Nat.le_of_ble_eq_true rfl) dX12_feed_69 (fun H locs hP hD hS => ?_)
      have hP : va_P D vwCl [(hm, .inr (12, [.int 0, .ref (ma 1), .int 3, .int (-1), .ref (ma 4), .int 0, .int 0, .int 0, .long 0, .int 0, .int 0, .int 0, .int 0, .long 0, .int 0, .int 0, .int 0, .ref (ma 17), .ref (ma 18), .ref (ma 19), .ref (ma 20), .ref (ma 21), .ref (ma 22), .ref (ma 23), .ref (ma 24), .ref (ma 25), .ref (ma 26), .ref (ma 27), .ref (ma 28), .ref (ma 29), .ref (ma 30), .ref (ma 31), .ref (ma 32), .ref (ma 33), .ref (ma 34), .ref (ma 35), .ref (ma 36), .ref (ma 37), .ref (ma 38), .ref (ma 39), .ref (ma 40), .ref (ma 41), .ref (ma 42), .ref (ma 43), .ref (ma 44), .ref (ma 45), .ref (ma 46), .ref (ma 47), .ref (ma 48), .int 0, .int 0, .int 0, .int 0, .int 0, .int 0, .int 0, .int 0, .int 0, .int 0, .ref (ma 59), .ref (ma 60), .int 0, .int 0, .int 0, .int 0, .int 0, .int 0, .ref (ma 67), .ref (ma 68), .ref (ma 69), .int 0, .int (-1), .int 0, .ref (ma 73)])), ((ma 1), .inl (cy 0, 1600, .inl f290))] H := hP
      have hD : va_D A [(hm, .inr (12, [.int 0, .ref (ma 1), .int 3, .int (-1), .ref (ma 4), .int 0, .int 0, .int 0, .long 0, .int 0, .int 0, .int 0, .int 0, .long 0, .int 0, .int 0, .int 0, .ref (ma 17), .ref (ma 18), .ref (ma 19), .ref (ma 20), .ref (ma 21), .ref (ma 22), .ref (ma 23), .ref (ma 24), .ref (ma 25), .ref (ma 26), .ref (ma 27), .ref (ma 28), .ref (ma 29), .ref (ma 30), .ref (ma 31), .ref (ma 32), .ref (ma 33), .ref (ma 34), .ref (ma 35), .ref (ma 36), .ref (ma 37), .ref (ma 38), .ref (ma 39), .ref (ma 40), .ref (ma 41), .ref (ma 42), .ref (ma 43), .ref (ma 44), .ref (ma 45), .ref (ma 46), .ref (ma 47), .ref (ma 48), .int 0, .int 0, .int 0, .int 0, .int 0, .int 0, .int 0, .int 0, .int 0, .int 0, .ref (ma 59), .ref (ma 60), .int 0, .int 0, .int 0, .int 0, .int 0, .int 0, .ref (ma 67), .ref (ma 68), .ref (ma 69), .int 0, .int (-1), .int 0, .ref (ma 73)])), ((ma 1), .inl (cy 0, 1600, .inl f290))] := hD
      refine lv_iinc (v := 3) (lv' := [(4, .int 3), (0, .ref hm), (1, .long p0), (3, .int (nI 7))]) hx hb dX12_feed_72 hl (k := 0) rfl (by decide) (by decide) rfl (fun ls hl => ?_)
      refine lv_goto (tgt := 39) hx hb dX12_feed_75 (by decide) ?_
      refine lv_iload hx hb dX12_feed_39 (lv_at hl 0 rfl) ?_
      refine lv_if_lt (tgt := 78) hx hb dX12_feed_41 (by decide) (fun c9 => absurd c9 (by decide)) (fun _ => ?_)
      refine lv_aload_n hx hb dX12_feed_44 rfl (lv_at hl 1 rfl) ?_
      refine va_get (D := D) (ci := 12) (v := .ref (ma 1)) (C := RX12) (T := TX12) (N := 74) hx hb hT i_TX12 hown hK hP 0 rfl rfl 1 (by decide) (hT _ t_1716) (fun _ h9 => h9) rfl dX12_feed_45 ?_
      refine lv_aload_n hx hb dX12_feed_48 rfl (lv_at hl 1 rfl) ?_
      refine va_get (D := D) (ci := 12) (v := .int 3) (C := RX12) (T := TX12) (N := 74) hx hb hT i_TX12 hown hK hP 0 rfl rfl 2 (by decide) (hT _ t_1717) (fun _ h9 => h9) rfl dX12_feed_49 ?_
      refine lv_lload_n hx hb dX12_feed_52 rfl (lv_at hl 2 rfl) ?_
      refine lv_bipush (v := 8) hx hb dX12_feed_53 (by decide) ?_
      refine lv_iload hx hb dX12_feed_55 (lv_at hl 0 rfl) ?_
      refine lv_imul hx hb dX12_feed_57 ?_
      refine lv_topi (fun z293 e294 => ?_)
      obtain rfl : z293 = 24 := e294.trans (by first | decide | rfl)
      refine lv_lshr hx hb dX12_feed_58 rfl ?_
      refine lv_topl (fun z295 e296 => ?_)
      refine lv_l2i hx hb dX12_feed_59 rfl ?_
      refine lv_topi (fun z297 e298 => ?_)
      refine lv_i2b hx hb dX12_feed_60 rfl ?_
      refine lv_topi (fun z299 e300 => ?_)
      refine va_bast hx hb hK hP hD hS 1 0 rfl rfl (vp_in_iff.mpr (by decide)) dX12_feed_61 (fun H locs hP hD hS => ?_)
      have hP : va_P D vwCl [(hm, .inr (12, [.int 0, .ref (ma 1), .int 3, .int (-1), .ref (ma 4), .int 0, .int 0, .int 0, .long 0, .int 0, .int 0, .int 0, .int 0, .long 0, .int 0, .int 0, .int 0, .ref (ma 17), .ref (ma 18), .ref (ma 19), .ref (ma 20), .ref (ma 21), .ref (ma 22), .ref (ma 23), .ref (ma 24), .ref (ma 25), .ref (ma 26), .ref (ma 27), .ref (ma 28), .ref (ma 29), .ref (ma 30), .ref (ma 31), .ref (ma 32), .ref (ma 33), .ref (ma 34), .ref (ma 35), .ref (ma 36), .ref (ma 37), .ref (ma 38), .ref (ma 39), .ref (ma 40), .ref (ma 41), .ref (ma 42), .ref (ma 43), .ref (ma 44), .ref (ma 45), .ref (ma 46), .ref (ma 47), .ref (ma 48), .int 0, .int 0, .int 0, .int 0, .int 0, .int 0, .int 0, .int 0, .int 0, .int 0, .ref (ma 59), .ref (ma 60), .int 0, .int 0, .int 0, .int 0, .int 0, .int 0, .ref (ma 67), .ref (ma 68), .ref (ma 69), .int 0, .int (-1), .int 0, .ref (ma 73)])), ((ma 1), .inl (cy 0, 1600, .inl (upd f290 (3 : Int32).toNatClampNeg (vp_nar .byte z299))))] H := hP
      have hD : va_D A [(hm, .inr (12, [.int 0, .ref (ma 1), .int 3, .int (-1), .ref (ma 4), .int 0, .int 0, .int 0, .long 0, .int 0, .int 0, .int 0, .int 0, .long 0, .int 0, .int 0, .int 0, .ref (ma 17), .ref (ma 18), .ref (ma 19), .ref (ma 20), .ref (ma 21), .ref (ma 22), .ref (ma 23), .ref (ma 24), .ref (ma 25), .ref (ma 26), .ref (ma 27), .ref (ma 28), .ref (ma 29), .ref (ma 30), .ref (ma 31), .ref (ma 32), .ref (ma 33), .ref (ma 34), .ref (ma 35), .ref (ma 36), .ref (ma 37), .ref (ma 38), .ref (ma 39), .ref (ma 40), .ref (ma 41), .ref (ma 42), .ref (ma 43), .ref (ma 44), .ref (ma 45), .ref (ma 46), .ref (ma 47), .ref (ma 48), .int 0, .int 0, .int 0, .int 0, .int 0, .int 0, .int 0, .int 0, .int 0, .int 0, .ref (ma 59), .ref (ma 60), .int 0, .int 0, .int 0, .int 0, .int 0, .int 0, .ref (ma 67), .ref (ma 68), .ref (ma 69), .int 0, .int (-1), .int 0, .ref (ma 73)])), ((ma 1), .inl (cy 0, 1600, .inl (upd f290 (3 : Int32).toNatClampNeg (vp_nar .byte z299))))] := hD
      generalize hff301 : (upd f290 (3 : Int32).toNatClampNeg (vp_nar .byte z299)) = f301 at hP hD
      refine lv_aload_n hx hb dX12_feed_62 rfl (lv_at hl 1 rfl) ?_
      refine lv_dup hx hb dX12_feed_63 rfl ?_
      refine va_get (D := D) (ci := 12) (v := .int 3) (C := RX12) (T := TX12) (N := 74) hx hb hT i_TX12 hown hK hP 0 rfl rfl 2 (by decide) (hT _ t_1717) (fun _ h9 => h9) rfl dX12_feed_64 ?_
      refine lv_iconst (v := 1) hx hb dX12_feed_67 (by decide) ?_
      refine lv_iadd hx hb dX12_feed_68 ?_
      refine lv_topi (fun z302 e303 => ?_)
      obtain rfl : z302 = 4 := e303.trans (by first | decide | rfl)
      refine va_put (D := D) (ci := 12) (v := .int 4) (ty := .int) (C := RX12) (T := TX12) (N := 74) hx hb hT i_TX12 tyX12 tyX12_ok nmX12 hown hK hP hD hS 0 rfl rfl 2 (by decide) (hT _ t_1717) (fun _ h9 => h9) rfl (by decide +kernel) rfl rfl (Nat.le_of_ble_eq_true rfl) dX12_feed_69 (fun H locs hP hD hS => ?_)
      have hP : va_P D vwCl [(hm, .inr (12, [.int 0, .ref (ma 1), .int 4, .int (-1), .ref (ma 4), .int 0, .int 0, .int 0, .long 0, .int 0, .int 0, .int 0, .int 0, .long 0, .int 0, .int 0, .int 0, .ref (ma 17), .ref (ma 18), .ref (ma 19), .ref (ma 20), .ref (ma 21), .ref (ma 22), .ref (ma 23), .ref (ma 24), .ref (ma 25), .ref (ma 26), .ref (ma 27), .ref (ma 28), .ref (ma 29), .ref (ma 30), .ref (ma 31), .ref (ma 32), .ref (ma 33), .ref (ma 34), .ref (ma 35), .ref (ma 36), .ref (ma 37), .ref (ma 38), .ref (ma 39), .ref (ma 40), .ref (ma 41), .ref (ma 42), .ref (ma 43), .ref (ma 44), .ref (ma 45), .ref (ma 46), .ref (ma 47), .ref (ma 48), .int 0, .int 0, .int 0, .int 0, .int 0, .int 0, .int 0, .int 0, .int 0, .int 0, .ref (ma 59), .ref (ma 60), .int 0, .int 0, .int 0, .int 0, .int 0, .int 0, .ref (ma 67), .ref (ma 68), .ref (ma 69), .int 0, .int (-1), .int 0, .ref (ma 73)])), ((ma 1), .inl (cy 0, 1600, .inl f301))] H := hP
      have hD : va_D A [(hm, .inr (12, [.int 0, .ref (ma 1), .int 4, .int (-1), .ref (ma 4), .int 0, .int 0, .int 0, .long 0, .int 0, .int 0, .int 0, .int 0, .long 0, .int 0, .int 0, .int 0, .ref (ma 17), .ref (ma 18), .ref (ma 19), .ref (ma 20), .ref (ma 21), .ref (ma 22), .ref (ma 23), .ref (ma 24), .ref (ma 25), .ref (ma 26), .ref (ma 27), .ref (ma 28), .ref (ma 29), .ref (ma 30), .ref (ma 31), .ref (ma 32), .ref (ma 33), .ref (ma 34), .ref (ma 35), .ref (ma 36), .ref (ma 37), .ref (ma 38), .ref (ma 39), .ref (ma 40), .ref (ma 41), .ref (ma 42), .ref (ma 43), .ref (ma 44), .ref (ma 45), .ref (ma 46), .ref (ma 47), .ref (ma 48), .int 0, .int 0, .int 0, .int 0, .int 0, .int 0, .int 0, .int 0, .int 0, .int 0, .ref (ma 59), .ref (ma 60), .int 0, .int 0, .int 0, .int 0, .int 0, .int 0, .ref (ma 67), .ref (ma 68), .ref (ma 69), .int 0, .int (-1), .int 0, .ref (ma 73)])), ((ma 1), .inl (cy 0, 1600, .inl f301))] := hD
      refine lv_iinc (v := 2) (lv' := [(4, .int 2), (0, .ref hm), (1, .long p0), (3, .int (nI 7))]) hx hb dX12_feed_72 hl (k := 0) rfl (by decide) (by decide) rfl (fun ls hl => ?_)
      refine lv_goto (tgt := 39) hx hb dX12_feed_75 (by decide) ?_
      refine lv_iload hx hb dX12_feed_39 (lv_at hl 0 rfl) ?_
      refine lv_if_lt (tgt := 78) hx hb dX12_feed_41 (by decide) (fun c9 => absurd c9 (by decide)) (fun _ => ?_)
      refine lv_aload_n hx hb dX12_feed_44 rfl (lv_at hl 1 rfl) ?_
      refine va_get (D := D) (ci := 12) (v := .ref (ma 1)) (C := RX12) (T := TX12) (N := 74) hx hb hT i_TX12 hown hK hP 0 rfl rfl 1 (by decide) (hT _ t_1716) (fun _ h9 => h9) rfl dX12_feed_45 ?_
      refine lv_aload_n hx hb dX12_feed_48 rfl (lv_at hl 1 rfl) ?_
      refine va_get (D := D) (ci := 12) (v := .int 4) (C := RX12) (T := TX12) (N := 74) hx hb hT i_TX12 hown hK hP 0 rfl rfl 2 (by decide) (hT _ t_1717) (fun _ h9 => h9) rfl dX12_feed_49 ?_
      refine lv_lload_n hx hb dX12_feed_52 rfl (lv_at hl 2 rfl) ?_
      refine lv_bipush (v := 8) hx hb dX12_feed_53 (by decide) ?_
      refine lv_iload hx hb dX12_feed_55 (lv_at hl 0 rfl) ?_
      refine lv_imul hx hb dX12_feed_57 ?_
      refine lv_topi (fun z304 e305 => ?_)
      obtain rfl : z304 = 16 := e305.trans (by first | decide | rfl)
      refine lv_lshr hx hb dX12_feed_58 rfl ?_
      refine lv_topl (fun z306 e307 => ?_)
      refine lv_l2i hx hb dX12_feed_59 rfl ?_
      refine lv_topi (fun z308 e309 => ?_)
      refine lv_i2b hx hb dX12_feed_60 rfl ?_
      refine lv_topi (fun z310 e311 => ?_)
      refine va_bast hx hb hK hP hD hS 1 0 rfl rfl (vp_in_iff.mpr (by decide)) dX12_feed_61 (fun H locs hP hD hS => ?_)
      have hP : va_P D vwCl [(hm, .inr (12, [.int 0, .ref (ma 1), .int 4, .int (-1), .ref (ma 4), .int 0, .int 0, .int 0, .long 0, .int 0, .int 0, .int 0, .int 0, .long 0, .int 0, .int 0, .int 0, .ref (ma 17), .ref (ma 18), .ref (ma 19), .ref (ma 20), .ref (ma 21), .ref (ma 22), .ref (ma 23), .ref (ma 24), .ref (ma 25), .ref (ma 26), .ref (ma 27), .ref (ma 28), .ref (ma 29), .ref (ma 30), .ref (ma 31), .ref (ma 32), .ref (ma 33), .ref (ma 34), .ref (ma 35), .ref (ma 36), .ref (ma 37), .ref (ma 38), .ref (ma 39), .ref (ma 40), .ref (ma 41), .ref (ma 42), .ref (ma 43), .ref (ma 44), .ref (ma 45), .ref (ma 46), .ref (ma 47), .ref (ma 48), .int 0, .int 0, .int 0, .int 0, .int 0, .int 0, .int 0, .int 0, .int 0, .int 0, .ref (ma 59), .ref (ma 60), .int 0, .int 0, .int 0, .int 0, .int 0, .int 0, .ref (ma 67), .ref (ma 68), .ref (ma 69), .int 0, .int (-1), .int 0, .ref (ma 73)])), ((ma 1), .inl (cy 0, 1600, .inl (upd f301 (4 : Int32).toNatClampNeg (vp_nar .byte z310))))] H := hP
      have hD : va_D A [(hm, .inr (12, [.int 0, .ref (ma 1), .int 4, .int (-1), .ref (ma 4), .int 0, .int 0, .int 0, .long 0, .int 0, .int 0, .int 0, .int 0, .long 0, .int 0, .int 0, .int 0, .ref (ma 17), .ref (ma 18), .ref (ma 19), .ref (ma 20), .ref (ma 21), .ref (ma 22), .ref (ma 23), .ref (ma 24), .ref (ma 25), .ref (ma 26), .ref (ma 27), .ref (ma 28), .ref (ma 29), .ref (ma 30), .ref (ma 31), .ref (ma 32), .ref (ma 33), .ref (ma 34), .ref (ma 35), .ref (ma 36), .ref (ma 37), .ref (ma 38), .ref (ma 39), .ref (ma 40), .ref (ma 41), .ref (ma 42), .ref (ma 43), .ref (ma 44), .ref (ma 45), .ref (ma 46), .ref (ma 47), .ref (ma 48), .int 0, .int 0, .int 0, .int 0, .int 0, .int 0, .int 0, .int 0, .int 0, .int 0, .ref (ma 59), .ref (ma 60), .int 0, .int 0, .int 0, .int 0, .int 0, .int 0, .ref (ma 67), .ref (ma 68), .ref (ma 69), .int 0, .int (-1), .int 0, .ref (ma 73)])), ((ma 1), .inl (cy 0, 1600, .inl (upd f301 (4 : Int32).toNatClampNeg (vp_nar .byte z310))))] := hD
      generalize hff312 : (upd f301 (4 : Int32).toNatClampNeg (vp_nar .byte z310)) = f312 at hP hD
      refine lv_aload_n hx hb dX12_feed_62 rfl (lv_at hl 1 rfl) ?_
      refine lv_dup hx hb dX12_feed_63 rfl ?_
      refine va_get (D := D) (ci := 12) (v := .int 4) (C := RX12) (T := TX12) (N := 74) hx hb hT i_TX12 hown hK hP 0 rfl rfl 2 (by decide) (hT _ t_1717) (fun _ h9 => h9) rfl dX12_feed_64 ?_
      refine lv_iconst (v := 1) hx hb dX12_feed_67 (by decide) ?_
      refine lv_iadd hx hb dX12_feed_68 ?_
      refine lv_topi (fun z313 e314 => ?_)
      obtain rfl : z313 = 5 := e314.trans (by first | decide | rfl)
      refine va_put (D := D) (ci := 12) (v := .int 5) (ty := .int) (C := RX12) (T := TX12) (N := 74) hx hb hT i_TX12 tyX12 tyX12_ok nmX12 hown hK hP hD hS 0 rfl rfl 2 (by decide) (hT _ t_1717) (fun _ h9 => h9) rfl (by decide +kernel) rfl rfl (Nat.le_of_ble_eq_true rfl) dX12_feed_69 (fun H locs hP hD hS => ?_)
      have hP : va_P D vwCl [(hm, .inr (12, [.int 0, .ref (ma 1), .int 5, .int (-1), .ref (ma 4), .int 0, .int 0, .int 0, .long 0, .int 0, .int 0, .int 0, .int 0, .long 0, .int 0, .int 0, .int 0, .ref (ma 17), .ref (ma 18), .ref (ma 19), .ref (ma 20), .ref (ma 21), .ref (ma 22), .ref (ma 23), .ref (ma 24), .ref (ma 25), .ref (ma 26), .ref (ma 27), .ref (ma 28), .ref (ma 29), .ref (ma 30), .ref (ma 31), .ref (ma 32), .ref (ma 33), .ref (ma 34), .ref (ma 35), .ref (ma 36), .ref (ma 37), .ref (ma 38), .ref (ma 39), .ref (ma 40), .ref (ma 41), .ref (ma 42), .ref (ma 43), .ref (ma 44), .ref (ma 45), .ref (ma 46), .ref (ma 47), .ref (ma 48), .int 0, .int 0, .int 0, .int 0, .int 0, .int 0, .int 0, .int 0, .int 0, .int 0, .ref (ma 59), .ref (ma 60), .int 0, .int 0, .int 0, .int 0, .int 0, .int 0, .ref (ma 67), .ref (ma 68), .ref (ma 69), .int 0, .int (-1), .int 0, .ref (ma 73)])), ((ma 1), .inl (cy 0, 1600, .inl f312))] H := hP
      have hD : va_D A [(hm, .inr (12, [.int 0, .ref (ma 1), .int 5, .int (-1), .ref (ma 4), .int 0, .int 0, .int 0, .long 0, .int 0, .int 0, .int 0, .int 0, .long 0, .int 0, .int 0, .int 0, .ref (ma 17), .ref (ma 18), .ref (ma 19), .ref (ma 20), .ref (ma 21), .ref (ma 22), .ref (ma 23), .ref (ma 24), .ref (ma 25), .ref (ma 26), .ref (ma 27), .ref (ma 28), .ref (ma 29), .ref (ma 30), .ref (ma 31), .ref (ma 32), .ref (ma 33), .ref (ma 34), .ref (ma 35), .ref (ma 36), .ref (ma 37), .ref (ma 38), .ref (ma 39), .ref (ma 40), .ref (ma 41), .ref (ma 42), .ref (ma 43), .ref (ma 44), .ref (ma 45), .ref (ma 46), .ref (ma 47), .ref (ma 48), .int 0, .int 0, .int 0, .int 0, .int 0, .int 0, .int 0, .int 0, .int 0, .int 0, .ref (ma 59), .ref (ma 60), .int 0, .int 0, .int 0, .int 0, .int 0, .int 0, .ref (ma 67), .ref (ma 68), .ref (ma 69), .int 0, .int (-1), .int 0, .ref (ma 73)])), ((ma 1), .inl (cy 0, 1600, .inl f312))] := hD
      refine lv_iinc (v := 1) (lv' := [(4, .int 1), (0, .ref hm), (1, .long p0), (3, .int (nI 7))]) hx hb dX12_feed_72 hl (k := 0) rfl (by decide) (by decide) rfl (fun ls hl => ?_)
      refine lv_goto (tgt := 39) hx hb dX12_feed_75 (by decide) ?_
      refine lv_iload hx hb dX12_feed_39 (lv_at hl 0 rfl) ?_
      refine lv_if_lt (tgt := 78) hx hb dX12_feed_41 (by decide) (fun c9 => absurd c9 (by decide)) (fun _ => ?_)
      refine lv_aload_n hx hb dX12_feed_44 rfl (lv_at hl 1 rfl) ?_
      refine va_get (D := D) (ci := 12) (v := .ref (ma 1)) (C := RX12) (T := TX12) (N := 74) hx hb hT i_TX12 hown hK hP 0 rfl rfl 1 (by decide) (hT _ t_1716) (fun _ h9 => h9) rfl dX12_feed_45 ?_
      refine lv_aload_n hx hb dX12_feed_48 rfl (lv_at hl 1 rfl) ?_
      refine va_get (D := D) (ci := 12) (v := .int 5) (C := RX12) (T := TX12) (N := 74) hx hb hT i_TX12 hown hK hP 0 rfl rfl 2 (by decide) (hT _ t_1717) (fun _ h9 => h9) rfl dX12_feed_49 ?_
      refine lv_lload_n hx hb dX12_feed_52 rfl (lv_at hl 2 rfl) ?_
      refine lv_bipush (v := 8) hx hb dX12_feed_53 (by decide) ?_
      refine lv_iload hx hb dX12_feed_55 (lv_at hl 0 rfl) ?_
      refine lv_imul hx hb dX12_feed_57 ?_
      refine lv_topi (fun z315 e316 => ?_)
      obtain rfl : z315 = 8 := e316.trans (by first | decide | rfl)
      refine lv_lshr hx hb dX12_feed_58 rfl ?_
      refine lv_topl (fun z317 e318 => ?_)
      refine lv_l2i hx hb dX12_feed_59 rfl ?_
      refine lv_topi (fun z319 e320 => ?_)
      refine lv_i2b hx hb dX12_feed_60 rfl ?_
      refine lv_topi (fun z321 e322 => ?_)
      refine va_bast hx hb hK hP hD hS 1 0 rfl rfl (vp_in_iff.mpr (by decide)) dX12_feed_61 (fun H locs hP hD hS => ?_)
      have hP : va_P D vwCl [(hm, .inr (12, [.int 0, .ref (ma 1), .int 5, .int (-1), .ref (ma 4), .int 0, .int 0, .int 0, .long 0, .int 0, .int 0, .int 0, .int 0, .long 0, .int 0, .int 0, .int 0, .ref (ma 17), .ref (ma 18), .ref (ma 19), .ref (ma 20), .ref (ma 21), .ref (ma 22), .ref (ma 23), .ref (ma 24), .ref (ma 25), .ref (ma 26), .ref (ma 27), .ref (ma 28), .ref (ma 29), .ref (ma 30), .ref (ma 31), .ref (ma 32), .ref (ma 33), .ref (ma 34), .ref (ma 35), .ref (ma 36), .ref (ma 37), .ref (ma 38), .ref (ma 39), .ref (ma 40), .ref (ma 41), .ref (ma 42), .ref (ma 43), .ref (ma 44), .ref (ma 45), .ref (ma 46), .ref (ma 47), .ref (ma 48), .int 0, .int 0, .int 0, .int 0, .int 0, .int 0, .int 0, .int 0, .int 0, .int 0, .ref (ma 59), .ref (ma 60), .int 0, .int 0, .int 0, .int 0, .int 0, .int 0, .ref (ma 67), .ref (ma 68), .ref (ma 69), .int 0, .int (-1), .int 0, .ref (ma 73)])), ((ma 1), .inl (cy 0, 1600, .inl (upd f312 (5 : Int32).toNatClampNeg (vp_nar .byte z321))))] H := hP
      have hD : va_D A [(hm, .inr (12, [.int 0, .ref (ma 1), .int 5, .int (-1), .ref (ma 4), .int 0, .int 0, .int 0, .long 0, .int 0, .int 0, .int 0, .int 0, .long 0, .int 0, .int 0, .int 0, .ref (ma 17), .ref (ma 18), .ref (ma 19), .ref (ma 20), .ref (ma 21), .ref (ma 22), .ref (ma 23), .ref (ma 24), .ref (ma 25), .ref (ma 26), .ref (ma 27), .ref (ma 28), .ref (ma 29), .ref (ma 30), .ref (ma 31), .ref (ma 32), .ref (ma 33), .ref (ma 34), .ref (ma 35), .ref (ma 36), .ref (ma 37), .ref (ma 38), .ref (ma 39), .ref (ma 40), .ref (ma 41), .ref (ma 42), .ref (ma 43), .ref (ma 44), .ref (ma 45), .ref (ma 46), .ref (ma 47), .ref (ma 48), .int 0, .int 0, .int 0, .int 0, .int 0, .int 0, .int 0, .int 0, .int 0, .int 0, .ref (ma 59), .ref (ma 60), .int 0, .int 0, .int 0, .int 0, .int 0, .int 0, .ref (ma 67), .ref (ma 68), .ref (ma 69), .int 0, .int (-1), .int 0, .ref (ma 73)])), ((ma 1), .inl (cy 0, 1600, .inl (upd f312 (5 : Int32).toNatClampNeg (vp_nar .byte z321))))] := hD
      generalize hff323 : (upd f312 (5 : Int32).toNatClampNeg (vp_nar .byte z321)) = f323 at hP hD
      refine lv_aload_n hx hb dX12_feed_62 rfl (lv_at hl 1 rfl) ?_
      refine lv_dup hx hb dX12_feed_63 rfl ?_
      refine va_get (D := D) (ci := 12) (v := .int 5) (C := RX12) (T := TX12) (N := 74) hx hb hT i_TX12 hown hK hP 0 rfl rfl 2 (by decide) (hT _ t_1717) (fun _ h9 => h9) rfl dX12_feed_64 ?_
      refine lv_iconst (v := 1) hx hb dX12_feed_67 (by decide) ?_
      refine lv_iadd hx hb dX12_feed_68 ?_
      refine lv_topi (fun z324 e325 => ?_)
      obtain rfl : z324 = 6 := e325.trans (by first | decide | rfl)
      refine va_put (D := D) (ci := 12) (v := .int 6) (ty := .int) (C := RX12) (T := TX12) (N := 74) hx hb hT i_TX12 tyX12 tyX12_ok nmX12 hown hK hP hD hS 0 rfl rfl 2 (by decide) (hT _ t_1717) (fun _ h9 => h9) rfl (by decide +kernel) rfl rfl (Nat.le_of_ble_eq_true rfl) dX12_feed_69 (fun H locs hP hD hS => ?_)
      have hP : va_P D vwCl [(hm, .inr (12, [.int 0, .ref (ma 1), .int 6, .int (-1), .ref (ma 4), .int 0, .int 0, .int 0, .long 0, .int 0, .int 0, .int 0, .int 0, .long 0, .int 0, .int 0, .int 0, .ref (ma 17), .ref (ma 18), .ref (ma 19), .ref (ma 20), .ref (ma 21), .ref (ma 22), .ref (ma 23), .ref (ma 24), .ref (ma 25), .ref (ma 26), .ref (ma 27), .ref (ma 28), .ref (ma 29), .ref (ma 30), .ref (ma 31), .ref (ma 32), .ref (ma 33), .ref (ma 34), .ref (ma 35), .ref (ma 36), .ref (ma 37), .ref (ma 38), .ref (ma 39), .ref (ma 40), .ref (ma 41), .ref (ma 42), .ref (ma 43), .ref (ma 44), .ref (ma 45), .ref (ma 46), .ref (ma 47), .ref (ma 48), .int 0, .int 0, .int 0, .int 0, .int 0, .int 0, .int 0, .int 0, .int 0, .int 0, .ref (ma 59), .ref (ma 60), .int 0, .int 0, .int 0, .int 0, .int 0, .int 0, .ref (ma 67), .ref (ma 68), .ref (ma 69), .int 0, .int (-1), .int 0, .ref (ma 73)])), ((ma 1), .inl (cy 0, 1600, .inl f323))] H := hP
      have hD : va_D A [(hm, .inr (12, [.int 0, .ref (ma 1), .int 6, .int (-1), .ref (ma 4), .int 0, .int 0, .int 0, .long 0, .int 0, .int 0, .int 0, .int 0, .long 0, .int 0, .int 0, .int 0, .ref (ma 17), .ref (ma 18), .ref (ma 19), .ref (ma 20), .ref (ma 21), .ref (ma 22), .ref (ma 23), .ref (ma 24), .ref (ma 25), .ref (ma 26), .ref (ma 27), .ref (ma 28), .ref (ma 29), .ref (ma 30), .ref (ma 31), .ref (ma 32), .ref (ma 33), .ref (ma 34), .ref (ma 35), .ref (ma 36), .ref (ma 37), .ref (ma 38), .ref (ma 39), .ref (ma 40), .ref (ma 41), .ref (ma 42), .ref (ma 43), .ref (ma 44), .ref (ma 45), .ref (ma 46), .ref (ma 47), .ref (ma 48), .int 0, .int 0, .int 0, .int 0, .int 0, .int 0, .int 0, .int 0, .int 0, .int 0, .ref (ma 59), .ref (ma 60), .int 0, .int 0, .int 0, .int 0, .int 0, .int 0, .ref (ma 67), .ref (ma 68), .ref (ma 69), .int 0, .int (-1), .int 0, .ref (ma 73)])), ((ma 1), .inl (cy 0, 1600, .inl f323))] := hD
      refine lv_iinc (v := 0) (lv' := [(4, .int 0), (0, .ref hm), (1, .long p0), (3, .int (nI 7))]) hx hb dX12_feed_72 hl (k := 0) rfl (by decide) (by decide) rfl (fun ls hl => ?_)
      refine lv_goto (tgt := 39) hx hb dX12_feed_75 (by decide) ?_
      refine lv_iload hx hb dX12_feed_39 (lv_at hl 0 rfl) ?_
      refine lv_if_lt (tgt := 78) hx hb dX12_feed_41 (by decide) (fun c9 => absurd c9 (by decide)) (fun _ => ?_)
      refine lv_aload_n hx hb dX12_feed_44 rfl (lv_at hl 1 rfl) ?_
      refine va_get (D := D) (ci := 12) (v := .ref (ma 1)) (C := RX12) (T := TX12) (N := 74) hx hb hT i_TX12 hown hK hP 0 rfl rfl 1 (by decide) (hT _ t_1716) (fun _ h9 => h9) rfl dX12_feed_45 ?_
      refine lv_aload_n hx hb dX12_feed_48 rfl (lv_at hl 1 rfl) ?_
      refine va_get (D := D) (ci := 12) (v := .int 6) (C := RX12) (T := TX12) (N := 74) hx hb hT i_TX12 hown hK hP 0 rfl rfl 2 (by decide) (hT _ t_1717) (fun _ h9 => h9) rfl dX12_feed_49 ?_
      refine lv_lload_n hx hb dX12_feed_52 rfl (lv_at hl 2 rfl) ?_
      refine lv_bipush (v := 8) hx hb dX12_feed_53 (by decide) ?_
      refine lv_iload hx hb dX12_feed_55 (lv_at hl 0 rfl) ?_
      refine lv_imul hx hb dX12_feed_57 ?_
      refine lv_topi (fun z326 e327 => ?_)
      obtain rfl : z326 = 0 := e327.trans (by first | decide | rfl)
      refine lv_lshr hx hb dX12_feed_58 rfl ?_
      refine lv_topl (fun z328 e329 => ?_)
      refine lv_l2i hx hb dX12_feed_59 rfl ?_
      refine lv_topi (fun z330 e331 => ?_)
      refine lv_i2b hx hb dX12_feed_60 rfl ?_
      refine lv_topi (fun z332 e333 => ?_)
      refine va_bast hx hb hK hP hD hS 1 0 rfl rfl (vp_in_iff.mpr (by decide)) dX12_feed_61 (fun H locs hP hD hS => ?_)
      have hP : va_P D vwCl [(hm, .inr (12, [.int 0, .ref (ma 1), .int 6, .int (-1), .ref (ma 4), .int 0, .int 0, .int 0, .long 0, .int 0, .int 0, .int 0, .int 0, .long 0, .int 0, .int 0, .int 0, .ref (ma 17), .ref (ma 18), .ref (ma 19), .ref (ma 20), .ref (ma 21), .ref (ma 22), .ref (ma 23), .ref (ma 24), .ref (ma 25), .ref (ma 26), .ref (ma 27), .ref (ma 28), .ref (ma 29), .ref (ma 30), .ref (ma 31), .ref (ma 32), .ref (ma 33), .ref (ma 34), .ref (ma 35), .ref (ma 36), .ref (ma 37), .ref (ma 38), .ref (ma 39), .ref (ma 40), .ref (ma 41), .ref (ma 42), .ref (ma 43), .ref (ma 44), .ref (ma 45), .ref (ma 46), .ref (ma 47), .ref (ma 48), .int 0, .int 0, .int 0, .int 0, .int 0, .int 0, .int 0, .int 0, .int 0, .int 0, .ref (ma 59), .ref (ma 60), .int 0, .int 0, .int 0, .int 0, .int 0, .int 0, .ref (ma 67), .ref (ma 68), .ref (ma 69), .int 0, .int (-1), .int 0, .ref (ma 73)])), ((ma 1), .inl (cy 0, 1600, .inl (upd f323 (6 : Int32).toNatClampNeg (vp_nar .byte z332))))] H := hP
      have hD : va_D A [(hm, .inr (12, [.int 0, .ref (ma 1), .int 6, .int (-1), .ref (ma 4), .int 0, .int 0, .int 0, .long 0, .int 0, .int 0, .int 0, .int 0, .long 0, .int 0, .int 0, .int 0, .ref (ma 17), .ref (ma 18), .ref (ma 19), .ref (ma 20), .ref (ma 21), .ref (ma 22), .ref (ma 23), .ref (ma 24), .ref (ma 25), .ref (ma 26), .ref (ma 27), .ref (ma 28), .ref (ma 29), .ref (ma 30), .ref (ma 31), .ref (ma 32), .ref (ma 33), .ref (ma 34), .ref (ma 35), .ref (ma 36), .ref (ma 37), .ref (ma 38), .ref (ma 39), .ref (ma 40), .ref (ma 41), .ref (ma 42), .ref (ma 43), .ref (ma 44), .ref (ma 45), .ref (ma 46), .ref (ma 47), .ref (ma 48), .int 0, .int 0, .int 0, .int 0, .int 0, .int 0, .int 0, .int 0, .int 0, .int 0, .ref (ma 59), .ref (ma 60), .int 0, .int 0, .int 0, .int 0, .int 0, .int 0, .ref (ma 67), .ref (ma 68), .ref (ma 69), .int 0, .int (-1), .int 0, .ref (ma 73)])), ((ma 1), .inl (cy 0, 1600, .inl (upd f323 (6 : Int32).toNatClampNeg (vp_nar .byte z332))))] := hD
      generalize hff334 : (upd f323 (6 : Int32).toNatClampNeg (vp_nar .byte z332)) = f334 at hP hD
      refine lv_aload_n hx hb dX12_feed_62 rfl (lv_at hl 1 rfl) ?_
      refine lv_dup hx hb dX12_feed_63 rfl ?_
      refine va_get (D := D) (ci := 12) (v := .int 6) (C := RX12) (T := TX12) (N := 74) hx hb hT i_TX12 hown hK hP 0 rfl rfl 2 (by decide) (hT _ t_1717) (fun _ h9 => h9) rfl dX12_feed_64 ?_
      refine lv_iconst (v := 1) hx hb dX12_feed_67 (by decide) ?_
      refine lv_iadd hx hb dX12_feed_68 ?_
      refine lv_topi (fun z335 e336 => ?_)
      obtain rfl : z335 = 7 := e336.trans (by first | decide | rfl)
      refine va_put (D := D) (ci := 12) (v := .int 7) (ty := .int) (C := RX12) (T := TX12) (N := 74) hx hb hT i_TX12 tyX12 tyX12_ok nmX12 hown hK hP hD hS 0 rfl rfl 2 (by decide) (hT _ t_1717) (fun _ h9 => h9) rfl (by decide +kernel) rfl rfl (Nat.le_of_ble_eq_true rfl) dX12_feed_69 (fun H locs hP hD hS => ?_)
      have hP : va_P D vwCl [(hm, .inr (12, [.int 0, .ref (ma 1), .int 7, .int (-1), .ref (ma 4), .int 0, .int 0, .int 0, .long 0, .int 0, .int 0, .int 0, .int 0, .long 0, .int 0, .int 0, .int 0, .ref (ma 17), .ref (ma 18), .ref (ma 19), .ref (ma 20), .ref (ma 21), .ref (ma 22), .ref (ma 23), .ref (ma 24), .ref (ma 25), .ref (ma 26), .ref (ma 27), .ref (ma 28), .ref (ma 29), .ref (ma 30), .ref (ma 31), .ref (ma 32), .ref (ma 33), .ref (ma 34), .ref (ma 35), .ref (ma 36), .ref (ma 37), .ref (ma 38), .ref (ma 39), .ref (ma 40), .ref (ma 41), .ref (ma 42), .ref (ma 43), .ref (ma 44), .ref (ma 45), .ref (ma 46), .ref (ma 47), .ref (ma 48), .int 0, .int 0, .int 0, .int 0, .int 0, .int 0, .int 0, .int 0, .int 0, .int 0, .ref (ma 59), .ref (ma 60), .int 0, .int 0, .int 0, .int 0, .int 0, .int 0, .ref (ma 67), .ref (ma 68), .ref (ma 69), .int 0, .int (-1), .int 0, .ref (ma 73)])), ((ma 1), .inl (cy 0, 1600, .inl f334))] H := hP
      have hD : va_D A [(hm, .inr (12, [.int 0, .ref (ma 1), .int 7, .int (-1), .ref (ma 4), .int 0, .int 0, .int 0, .long 0, .int 0, .int 0, .int 0, .int 0, .long 0, .int 0, .int 0, .int 0, .ref (ma 17), .ref (ma 18), .ref (ma 19), .ref (ma 20), .ref (ma 21), .ref (ma 22), .ref (ma 23), .ref (ma 24), .ref (ma 25), .ref (ma 26), .ref (ma 27), .ref (ma 28), .ref (ma 29), .ref (ma 30), .ref (ma 31), .ref (ma 32), .ref (ma 33), .ref (ma 34), .ref (ma 35), .ref (ma 36), .ref (ma 37), .ref (ma 38), .ref (ma 39), .ref (ma 40), .ref (ma 41), .ref (ma 42), .ref (ma 43), .ref (ma 44), .ref (ma 45), .ref (ma 46), .ref (ma 47), .ref (ma 48), .int 0, .int 0, .int 0, .int 0, .int 0, .int 0, .int 0, .int 0, .int 0, .int 0, .ref (ma 59), .ref (ma 60), .int 0, .int 0, .int 0, .int 0, .int 0, .int 0, .ref (ma 67), .ref (ma 68), .ref (ma 69), .int 0, .int (-1), .int 0, .ref (ma 73)])), ((ma 1), .inl (cy 0, 1600, .inl f334))] := hD
      refine lv_iinc (v := (-1)) (lv' := [(4, .int (-1)), (0, .ref hm), (1, .long p0), (3, .int (nI 7))]) hx hb dX12_feed_72 hl (k := 0) rfl (by decide) (by decide) rfl (fun ls hl => ?_)
      refine lv_goto (tgt := 39) hx hb dX12_feed_75 (by decide) ?_
      refine lv_iload hx hb dX12_feed_39 (lv_at hl 0 rfl) ?_
      refine lv_if_lt (tgt := 78) hx hb dX12_feed_41 (by decide) (fun _ => ?_) (fun c9 => absurd (by decide) c9)
      refine lv_aload_n hx hb dX12_feed_78 rfl (lv_at hl 1 rfl) ?_
      refine va_get (D := D) (ci := 12) (v := .int 7) (C := RX12) (T := TX12) (N := 74) hx hb hT i_TX12 hown hK hP 0 rfl rfl 2 (by decide) (hT _ t_1717) (fun _ h9 => h9) rfl dX12_feed_79 ?_
      have hP9 := hP.sub (ws' := []) [] rfl
      have hD9 := hD.sub (ws' := []) [] (by decide) rfl
      refine W.widen (k := 0) (n := 0) (Nat.le_of_ble_eq_true rfl) (Nat.le_of_ble_eq_true rfl) ?_
      exact W.iret (v := 7) hx hb hr (fun t ht hW => ⟨⟨7, (), rfl, (by decide), by rw [ht]; exact hP9, hD9⟩, hS.F ht⟩) hS.2.2 dX12_feed_82
    · refine lv_aload_n hx hb dX12_feed_0 rfl (lv_at hl 0 rfl) ?_
      refine lv_iconst (v := 0) hx hb dX12_feed_1 (by decide) ?_
      refine va_put (D := D) (ci := 12) (v := .int 0) (ty := .int) (C := RX12) (T := TX12) (N := 74) hx hb hT i_TX12 tyX12 tyX12_ok nmX12 hown hK hP hD hS 0 rfl rfl 0 (by decide) (hT _ t_1715) (fun _ h9 => h9) rfl (by decide +kernel) rfl rfl (Nat.le_of_ble_eq_true rfl) dX12_feed_2 (fun H locs hP hD hS => ?_)
      have hP : va_P D vwCl [(hm, .inr (12, [.int 0, .ref (ma 1), .int 0, .int (-1), .ref (ma 4), .int 0, .int 0, .int 0, .long 0, .int 0, .int 0, .int 0, .int 0, .long 0, .int 0, .int 0, .int 0, .ref (ma 17), .ref (ma 18), .ref (ma 19), .ref (ma 20), .ref (ma 21), .ref (ma 22), .ref (ma 23), .ref (ma 24), .ref (ma 25), .ref (ma 26), .ref (ma 27), .ref (ma 28), .ref (ma 29), .ref (ma 30), .ref (ma 31), .ref (ma 32), .ref (ma 33), .ref (ma 34), .ref (ma 35), .ref (ma 36), .ref (ma 37), .ref (ma 38), .ref (ma 39), .ref (ma 40), .ref (ma 41), .ref (ma 42), .ref (ma 43), .ref (ma 44), .ref (ma 45), .ref (ma 46), .ref (ma 47), .ref (ma 48), .int 0, .int 0, .int 0, .int 0, .int 0, .int 0, .int 0, .int 0, .int 0, .int 0, .ref (ma 59), .ref (ma 60), .int 0, .int 0, .int 0, .int 0, .int 0, .int 0, .ref (ma 67), .ref (ma 68), .ref (ma 69), .int 0, .int (-1), .int 0, .ref (ma 73)])), ((ma 1), .inl (cy 0, 1600, .inl (fun _ => 0)))] H := hP
      have hD : va_D A [(hm, .inr (12, [.int 0, .ref (ma 1), .int 0, .int (-1), .ref (ma 4), .int 0, .int 0, .int 0, .long 0, .int 0, .int 0, .int 0, .int 0, .long 0, .int 0, .int 0, .int 0, .ref (ma 17), .ref (ma 18), .ref (ma 19), .ref (ma 20), .ref (ma 21), .ref (ma 22), .ref (ma 23), .ref (ma 24), .ref (ma 25), .ref (ma 26), .ref (ma 27), .ref (ma 28), .ref (ma 29), .ref (ma 30), .ref (ma 31), .ref (ma 32), .ref (ma 33), .ref (ma 34), .ref (ma 35), .ref (ma 36), .ref (ma 37), .ref (ma 38), .ref (ma 39), .ref (ma 40), .ref (ma 41), .ref (ma 42), .ref (ma 43), .ref (ma 44), .ref (ma 45), .ref (ma 46), .ref (ma 47), .ref (ma 48), .int 0, .int 0, .int 0, .int 0, .int 0, .int 0, .int 0, .int 0, .int 0, .int 0, .ref (ma 59), .ref (ma 60), .int 0, .int 0, .int 0, .int 0, .int 0, .int 0, .ref (ma 67), .ref (ma 68), .ref (ma 69), .int 0, .int (-1), .int 0, .ref (ma 73)])), ((ma 1), .inl (cy 0, 1600, .inl (fun _ => 0)))] := hD
      refine lv_iload_n hx hb dX12_feed_5 rfl (lv_at hl 2 rfl) ?_
      refine lv_iconst (v := 1) hx hb dX12_feed_6 (by decide) ?_
      refine lv_icmp_lt (tgt := 16) hx hb dX12_feed_7 (by decide) (fun c9 => absurd c9 (by decide)) (fun _ => ?_)
      refine lv_iload_n hx hb dX12_feed_10 rfl (lv_at hl 2 rfl) ?_
      refine lv_bipush (v := 8) hx hb dX12_feed_11 (by decide) ?_
      refine lv_icmp_le (tgt := 19) hx hb dX12_feed_13 (by decide) (fun _ => ?_) (fun c9 => absurd (by decide) c9)
      refine lv_aload_n hx hb dX12_feed_19 rfl (lv_at hl 0 rfl) ?_
      refine va_get (D := D) (ci := 12) (v := .int 0) (C := RX12) (T := TX12) (N := 74) hx hb hT i_TX12 hown hK hP 0 rfl rfl 2 (by decide) (hT _ t_1717) (fun _ h9 => h9) rfl dX12_feed_20 ?_
      refine lv_iload_n hx hb dX12_feed_23 rfl (lv_at hl 2 rfl) ?_
      refine lv_iadd hx hb dX12_feed_24 ?_
      refine lv_topi (fun z337 e338 => ?_)
      obtain rfl : z337 = 8 := e338.trans (by first | decide | rfl)
      refine lv_sipush (v := 1600) hx hb dX12_feed_25 (by decide) ?_
      refine lv_icmp_le (tgt := 34) hx hb dX12_feed_28 (by decide) (fun _ => ?_) (fun c9 => absurd (by decide) c9)
      refine lv_iload_n hx hb dX12_feed_34 rfl (lv_at hl 2 rfl) ?_
      refine lv_iconst (v := 1) hx hb dX12_feed_35 (by decide) ?_
      refine lv_isub hx hb dX12_feed_36 ?_
      refine lv_topi (fun z339 e340 => ?_)
      obtain rfl : z339 = 7 := e340.trans (by first | decide | rfl)
      refine lv_istore (lv' := [(4, .int 7), (0, .ref hm), (1, .long p0), (3, .int (nI 8))]) hx hb dX12_feed_37 hl (by decide) rfl (fun ls hl => ?_)
      refine lv_iload hx hb dX12_feed_39 (lv_at hl 0 rfl) ?_
      refine lv_if_lt (tgt := 78) hx hb dX12_feed_41 (by decide) (fun c9 => absurd c9 (by decide)) (fun _ => ?_)
      refine lv_aload_n hx hb dX12_feed_44 rfl (lv_at hl 1 rfl) ?_
      refine va_get (D := D) (ci := 12) (v := .ref (ma 1)) (C := RX12) (T := TX12) (N := 74) hx hb hT i_TX12 hown hK hP 0 rfl rfl 1 (by decide) (hT _ t_1716) (fun _ h9 => h9) rfl dX12_feed_45 ?_
      refine lv_aload_n hx hb dX12_feed_48 rfl (lv_at hl 1 rfl) ?_
      refine va_get (D := D) (ci := 12) (v := .int 0) (C := RX12) (T := TX12) (N := 74) hx hb hT i_TX12 hown hK hP 0 rfl rfl 2 (by decide) (hT _ t_1717) (fun _ h9 => h9) rfl dX12_feed_49 ?_
      refine lv_lload_n hx hb dX12_feed_52 rfl (lv_at hl 2 rfl) ?_
      refine lv_bipush (v := 8) hx hb dX12_feed_53 (by decide) ?_
      refine lv_iload hx hb dX12_feed_55 (lv_at hl 0 rfl) ?_
      refine lv_imul hx hb dX12_feed_57 ?_
      refine lv_topi (fun z341 e342 => ?_)
      obtain rfl : z341 = 56 := e342.trans (by first | decide | rfl)
      refine lv_lshr hx hb dX12_feed_58 rfl ?_
      refine lv_topl (fun z343 e344 => ?_)
      refine lv_l2i hx hb dX12_feed_59 rfl ?_
      refine lv_topi (fun z345 e346 => ?_)
      refine lv_i2b hx hb dX12_feed_60 rfl ?_
      refine lv_topi (fun z347 e348 => ?_)
      refine va_bast hx hb hK hP hD hS 1 0 rfl rfl (vp_in_iff.mpr (by decide)) dX12_feed_61 (fun H locs hP hD hS => ?_)
      have hP : va_P D vwCl [(hm, .inr (12, [.int 0, .ref (ma 1), .int 0, .int (-1), .ref (ma 4), .int 0, .int 0, .int 0, .long 0, .int 0, .int 0, .int 0, .int 0, .long 0, .int 0, .int 0, .int 0, .ref (ma 17), .ref (ma 18), .ref (ma 19), .ref (ma 20), .ref (ma 21), .ref (ma 22), .ref (ma 23), .ref (ma 24), .ref (ma 25), .ref (ma 26), .ref (ma 27), .ref (ma 28), .ref (ma 29), .ref (ma 30), .ref (ma 31), .ref (ma 32), .ref (ma 33), .ref (ma 34), .ref (ma 35), .ref (ma 36), .ref (ma 37), .ref (ma 38), .ref (ma 39), .ref (ma 40), .ref (ma 41), .ref (ma 42), .ref (ma 43), .ref (ma 44), .ref (ma 45), .ref (ma 46), .ref (ma 47), .ref (ma 48), .int 0, .int 0, .int 0, .int 0, .int 0, .int 0, .int 0, .int 0, .int 0, .int 0, .ref (ma 59), .ref (ma 60), .int 0, .int 0, .int 0, .int 0, .int 0, .int 0, .ref (ma 67), .ref (ma 68), .ref (ma 69), .int 0, .int (-1), .int 0, .ref (ma 73)])), ((ma 1), .inl (cy 0, 1600, .inl (upd (fun _ => 0) (0 : Int32).toNatClampNeg (vp_nar .byte z347))))] H := hP
      have hD : va_D A [(hm, .inr (12, [.int 0, .ref (ma 1), .int 0, .int (-1), .ref (ma 4), .int 0, .int 0, .int 0, .long 0, .int 0, .int 0, .int 0, .int 0, .long 0, .int 0, .int 0, .int 0, .ref (ma 17), .ref (ma 18), .ref (ma 19), .ref (ma 20), .ref (ma 21), .ref (ma 22), .ref (ma 23), .ref (ma 24), .ref (ma 25), .ref (ma 26), .ref (ma 27), .ref (ma 28), .ref (ma 29), .ref (ma 30), .ref (ma 31), .ref (ma 32), .ref (ma 33), .ref (ma 34), .ref (ma 35), .ref (ma 36), .ref (ma 37), .ref (ma 38), .ref (ma 39), .ref (ma 40), .ref (ma 41), .ref (ma 42), .ref (ma 43), .ref (ma 44), .ref (ma 45), .ref (ma 46), .ref (ma 47), .ref (ma 48), .int 0, .int 0, .int 0, .int 0, .int 0, .int 0, .int 0, .int 0, .int 0, .int 0, .ref (ma 59), .ref (ma 60), .int 0, .int 0, .int 0, .int 0, .int 0, .int 0, .ref (ma 67), .ref (ma 68), .ref (ma 69), .int 0, .int (-1), .int 0, .ref (ma 73)])), ((ma 1), .inl (cy 0, 1600, .inl (upd (fun _ => 0) (0 : Int32).toNatClampNeg (vp_nar .byte z347))))] := hD
      generalize hff349 : (upd (fun _ => 0) (0 : Int32).toNatClampNeg (vp_nar .byte z347)) = f349 at hP hD
      refine lv_aload_n hx hb dX12_feed_62 rfl (lv_at hl 1 rfl) ?_
      refine lv_dup hx hb dX12_feed_63 rfl ?_
      refine va_get (D := D) (ci := 12) (v := .int 0) (C := RX12) (T := TX12) (N := 74) hx hb hT i_TX12 hown hK hP 0 rfl rfl 2 (by decide) (hT _ t_1717) (fun _ h9 => h9) rfl dX12_feed_64 ?_
      refine lv_iconst (v := 1) hx hb dX12_feed_67 (by decide) ?_
      refine lv_iadd hx hb dX12_feed_68 ?_
      refine lv_topi (fun z350 e351 => ?_)
      obtain rfl : z350 = 1 := e351.trans (by first | decide | rfl)
      refine va_put (D := D) (ci := 12) (v := .int 1) (ty := .int) (C := RX12) (T := TX12) (N := 74) hx hb hT i_TX12 tyX12 tyX12_ok nmX12 hown hK hP hD hS 0 rfl rfl 2 (by decide) (hT _ t_1717) (fun _ h9 => h9) rfl (by decide +kernel) rfl rfl (Nat.le_of_ble_eq_true rfl) dX12_feed_69 (fun H locs hP hD hS => ?_)
      have hP : va_P D vwCl [(hm, .inr (12, [.int 0, .ref (ma 1), .int 1, .int (-1), .ref (ma 4), .int 0, .int 0, .int 0, .long 0, .int 0, .int 0, .int 0, .int 0, .long 0, .int 0, .int 0, .int 0, .ref (ma 17), .ref (ma 18), .ref (ma 19), .ref (ma 20), .ref (ma 21), .ref (ma 22), .ref (ma 23), .ref (ma 24), .ref (ma 25), .ref (ma 26), .ref (ma 27), .ref (ma 28), .ref (ma 29), .ref (ma 30), .ref (ma 31), .ref (ma 32), .ref (ma 33), .ref (ma 34), .ref (ma 35), .ref (ma 36), .ref (ma 37), .ref (ma 38), .ref (ma 39), .ref (ma 40), .ref (ma 41), .ref (ma 42), .ref (ma 43), .ref (ma 44), .ref (ma 45), .ref (ma 46), .ref (ma 47), .ref (ma 48), .int 0, .int 0, .int 0, .int 0, .int 0, .int 0, .int 0, .int 0, .int 0, .int 0, .ref (ma 59), .ref (ma 60), .int 0, .int 0, .int 0, .int 0, .int 0, .int 0, .ref (ma 67), .ref (ma 68), .ref (ma 69), .int 0, .int (-1), .int 0, .ref (ma 73)])), ((ma 1), .inl (cy 0, 1600, .inl f349))] H := hP
      have hD : va_D A [(hm, .inr (12, [.int 0, .ref (ma 1), .int 1, .int (-1), .ref (ma 4), .int 0, .int 0, .int 0, .long 0, .int 0, .int 0, .int 0, .int 0, .long 0, .int 0, .int 0, .int 0, .ref (ma 17), .ref (ma 18), .ref (ma 19), .ref (ma 20), .ref (ma 21), .ref (ma 22), .ref (ma 23), .ref (ma 24), .ref (ma 25), .ref (ma 26), .ref (ma 27), .ref (ma 28), .ref (ma 29), .ref (ma 30), .ref (ma 31), .ref (ma 32), .ref (ma 33), .ref (ma 34), .ref (ma 35), .ref (ma 36), .ref (ma 37), .ref (ma 38), .ref (ma 39), .ref (ma 40), .ref (ma 41), .ref (ma 42), .ref (ma 43), .ref (ma 44), .ref (ma 45), .ref (ma 46), .ref (ma 47), .ref (ma 48), .int 0, .int 0, .int 0, .int 0, .int 0, .int 0, .int 0, .int 0, .int 0, .int 0, .ref (ma 59), .ref (ma 60), .int 0, .int 0, .int 0, .int 0, .int 0, .int 0, .ref (ma 67), .ref (ma 68), .ref (ma 69), .int 0, .int (-1), .int 0, .ref (ma 73)])), ((ma 1), .inl (cy 0, 1600, .inl f349))] := hD
      refine lv_iinc (v := 6) (lv' := [(4, .int 6), (0, .ref hm), (1, .long p0), (3, .int (nI 8))]) hx hb dX12_feed_72 hl (k := 0) rfl (by decide) (by decide) rfl (fun ls hl => ?_)
      refine lv_goto (tgt := 39) hx hb dX12_feed_75 (by decide) ?_
      refine lv_iload hx hb dX12_feed_39 (lv_at hl 0 rfl) ?_
      refine lv_if_lt (tgt := 78) hx hb dX12_feed_41 (by decide) (fun c9 => absurd c9 (by decide)) (fun _ => ?_)
      refine lv_aload_n hx hb dX12_feed_44 rfl (lv_at hl 1 rfl) ?_
      refine va_get (D := D) (ci := 12) (v := .ref (ma 1)) (C := RX12) (T := TX12) (N := 74) hx hb hT i_TX12 hown hK hP 0 rfl rfl 1 (by decide) (hT _ t_1716) (fun _ h9 => h9) rfl dX12_feed_45 ?_
      refine lv_aload_n hx hb dX12_feed_48 rfl (lv_at hl 1 rfl) ?_
      refine va_get (D := D) (ci := 12) (v := .int 1) (C := RX12) (T := TX12) (N := 74) hx hb hT i_TX12 hown hK hP 0 rfl rfl 2 (by decide) (hT _ t_1717) (fun _ h9 => h9) rfl dX12_feed_49 ?_
      refine lv_lload_n hx hb dX12_feed_52 rfl (lv_at hl 2 rfl) ?_
      refine lv_bipush (v := 8) hx hb dX12_feed_53 (by decide) ?_
      refine lv_iload hx hb dX12_feed_55 (lv_at hl 0 rfl) ?_
      refine lv_imul hx hb dX12_feed_57 ?_
      refine lv_topi (fun z352 e353 => ?_)
      obtain rfl : z352 = 48 := e353.trans (by first | decide | rfl)
      refine lv_lshr hx hb dX12_feed_58 rfl ?_
      refine lv_topl (fun z354 e355 => ?_)
      refine lv_l2i hx hb dX12_feed_59 rfl ?_
      refine lv_topi (fun z356 e357 => ?_)
      refine lv_i2b hx hb dX12_feed_60 rfl ?_
      refine lv_topi (fun z358 e359 => ?_)
      refine va_bast hx hb hK hP hD hS 1 0 rfl rfl (vp_in_iff.mpr (by decide)) dX12_feed_61 (fun H locs hP hD hS => ?_)
      have hP : va_P D vwCl [(hm, .inr (12, [.int 0, .ref (ma 1), .int 1, .int (-1), .ref (ma 4), .int 0, .int 0, .int 0, .long 0, .int 0, .int 0, .int 0, .int 0, .long 0, .int 0, .int 0, .int 0, .ref (ma 17), .ref (ma 18), .ref (ma 19), .ref (ma 20), .ref (ma 21), .ref (ma 22), .ref (ma 23), .ref (ma 24), .ref (ma 25), .ref (ma 26), .ref (ma 27), .ref (ma 28), .ref (ma 29), .ref (ma 30), .ref (ma 31), .ref (ma 32), .ref (ma 33), .ref (ma 34), .ref (ma 35), .ref (ma 36), .ref (ma 37), .ref (ma 38), .ref (ma 39), .ref (ma 40), .ref (ma 41), .ref (ma 42), .ref (ma 43), .ref (ma 44), .ref (ma 45), .ref (ma 46), .ref (ma 47), .ref (ma 48), .int 0, .int 0, .int 0, .int 0, .int 0, .int 0, .int 0, .int 0, .int 0, .int 0, .ref (ma 59), .ref (ma 60), .int 0, .int 0, .int 0, .int 0, .int 0, .int 0, .ref (ma 67), .ref (ma 68), .ref (ma 69), .int 0, .int (-1), .int 0, .ref (ma 73)])), ((ma 1), .inl (cy 0, 1600, .inl (upd f349 (1 : Int32).toNatClampNeg (vp_nar .byte z358))))] H := hP
      have hD : va_D A [(hm, .inr (12, [.int 0, .ref (ma 1), .int 1, .int (-1), .ref (ma 4), .int 0, .int 0, .int 0, .long 0, .int 0, .int 0, .int 0, .int 0, .long 0, .int 0, .int 0, .int 0, .ref (ma 17), .ref (ma 18), .ref (ma 19), .ref (ma 20), .ref (ma 21), .ref (ma 22), .ref (ma 23), .ref (ma 24), .ref (ma 25), .ref (ma 26), .ref (ma 27), .ref (ma 28), .ref (ma 29), .ref (ma 30), .ref (ma 31), .ref (ma 32), .ref (ma 33), .ref (ma 34), .ref (ma 35), .ref (ma 36), .ref (ma 37), .ref (ma 38), .ref (ma 39), .ref (ma 40), .ref (ma 41), .ref (ma 42), .ref (ma 43), .ref (ma 44), .ref (ma 45), .ref (ma 46), .ref (ma 47), .ref (ma 48), .int 0, .int 0, .int 0, .int 0, .int 0, .int 0, .int 0, .int 0, .int 0, .int 0, .ref (ma 59), .ref (ma 60), .int 0, .int 0, .int 0, .int 0, .int 0, .int 0, .ref (ma 67), .ref (ma 68), .ref (ma 69), .int 0, .int (-1), .int 0, .ref (ma 73)])), ((ma 1), .inl (cy 0, 1600, .inl (upd f349 (1 : Int32).toNatClampNeg (vp_nar .byte z358))))] := hD
      generalize hff360 : (upd f349 (1 : Int32).toNatClampNeg (vp_nar .byte z358)) = f360 at hP hD
      refine lv_aload_n hx hb dX12_feed_62 rfl (lv_at hl 1 rfl) ?_
      refine lv_dup hx hb dX12_feed_63 rfl ?_
      refine va_get (D := D) (ci := 12) (v := .int 1) (C := RX12) (T := TX12) (N := 74) hx hb hT i_TX12 hown hK hP 0 rfl rfl 2 (by decide) (hT _ t_1717) (fun _ h9 => h9) rfl dX12_feed_64 ?_
      refine lv_iconst (v := 1) hx hb dX12_feed_67 (by decide) ?_
      refine lv_iadd hx hb dX12_feed_68 ?_
      refine lv_topi (fun z361 e362 => ?_)
      obtain rfl : z361 = 2 := e362.trans (by first | decide | rfl)
      refine va_put (D := D) (ci := 12) (v := .int 2) (ty := .int) (C := RX12) (T := TX12) (N := 74) hx hb hT i_TX12 tyX12 tyX12_ok nmX12 hown hK hP hD hS 0 rfl rfl 2 (by decide) (hT _ t_1717) (fun _ h9 => h9) rfl (by decide +kernel) rfl rfl (Nat.le_of_ble_eq_true rfl) dX12_feed_69 (fun H locs hP hD hS => ?_)
      have hP : va_P D vwCl [(hm, .inr (12, [.int 0, .ref (ma 1), .int 2, .int (-1), .ref (ma 4), .int 0, .int 0, .int 0, .long 0, .int 0, .int 0, .int 0, .int 0, .long 0, .int 0, .int 0, .int 0, .ref (ma 17), .ref (ma 18), .ref (ma 19), .ref (ma 20), .ref (ma 21), .ref (ma 22), .ref (ma 23), .ref (ma 24), .ref (ma 25), .ref (ma 26), .ref (ma 27), .ref (ma 28), .ref (ma 29), .ref (ma 30), .ref (ma 31), .ref (ma 32), .ref (ma 33), .ref (ma 34), .ref (ma 35), .ref (ma 36), .ref (ma 37), .ref (ma 38), .ref (ma 39), .ref (ma 40), .ref (ma 41), .ref (ma 42), .ref (ma 43), .ref (ma 44), .ref (ma 45), .ref (ma 46), .ref (ma 47), .ref (ma 48), .int 0, .int 0, .int 0, .int 0, .int 0, .int 0, .int 0, .int 0, .int 0, .int 0, .ref (ma 59), .ref (ma 60), .int 0, .int 0, .int 0, .int 0, .int 0, .int 0, .ref (ma 67), .ref (ma 68), .ref (ma 69), .int 0, .int (-1), .int 0, .ref (ma 73)])), ((ma 1), .inl (cy 0, 1600, .inl f360))] H := hP
      have hD : va_D A [(hm, .inr (12, [.int 0, .ref (ma 1), .int 2, .int (-1), .ref (ma 4), .int 0, .int 0, .int 0, .long 0, .int 0, .int 0, .int 0, .int 0, .long 0, .int 0, .int 0, .int 0, .ref (ma 17), .ref (ma 18), .ref (ma 19), .ref (ma 20), .ref (ma 21), .ref (ma 22), .ref (ma 23), .ref (ma 24), .ref (ma 25), .ref (ma 26), .ref (ma 27), .ref (ma 28), .ref (ma 29), .ref (ma 30), .ref (ma 31), .ref (ma 32), .ref (ma 33), .ref (ma 34), .ref (ma 35), .ref (ma 36), .ref (ma 37), .ref (ma 38), .ref (ma 39), .ref (ma 40), .ref (ma 41), .ref (ma 42), .ref (ma 43), .ref (ma 44), .ref (ma 45), .ref (ma 46), .ref (ma 47), .ref (ma 48), .int 0, .int 0, .int 0, .int 0, .int 0, .int 0, .int 0, .int 0, .int 0, .int 0, .ref (ma 59), .ref (ma 60), .int 0, .int 0, .int 0, .int 0, .int 0, .int 0, .ref (ma 67), .ref (ma 68), .ref (ma 69), .int 0, .int (-1), .int 0, .ref (ma 73)])), ((ma 1), .inl (cy 0, 1600, .inl f360))] := hD
      refine lv_iinc (v := 5) (lv' := [(4, .int 5), (0, .ref hm), (1, .long p0), (3, .int (nI 8))]) hx hb dX12_feed_72 hl (k := 0) rfl (by decide) (by decide) rfl (fun ls hl => ?_)
      refine lv_goto (tgt := 39) hx hb dX12_feed_75 (by decide) ?_
      refine lv_iload hx hb dX12_feed_39 (lv_at hl 0 rfl) ?_
      refine lv_if_lt (tgt := 78) hx hb dX12_feed_41 (by decide) (fun c9 => absurd c9 (by decide)) (fun _ => ?_)
      refine lv_aload_n hx hb dX12_feed_44 rfl (lv_at hl 1 rfl) ?_
      refine va_get (D := D) (ci := 12) (v := .ref (ma 1)) (C := RX12) (T := TX12) (N := 74) hx hb hT i_TX12 hown hK hP 0 rfl rfl 1 (by decide) (hT _ t_1716) (fun _ h9 => h9) rfl dX12_feed_45 ?_
      refine lv_aload_n hx hb dX12_feed_48 rfl (lv_at hl 1 rfl) ?_
      refine va_get (D := D) (ci := 12) (v := .int 2) (C := RX12) (T := TX12) (N := 74) hx hb hT i_TX12 hown hK hP 0 rfl rfl 2 (by decide) (hT _ t_1717) (fun _ h9 => h9) rfl dX12_feed_49 ?_
      refine lv_lload_n hx hb dX12_feed_52 rfl (lv_at hl 2 rfl) ?_
      refine lv_bipush (v := 8) hx hb dX12_feed_53 (by decide) ?_
      refine lv_iload hx hb dX12_feed_55 (lv_at hl 0 rfl) ?_
      refine lv_imul hx hb dX12_feed_57 ?_
      refine lv_topi (fun z363 e364 => ?_)
      obtain rfl : z363 = 40 := e364.trans (by first | decide | rfl)
      refine lv_lshr hx hb dX12_feed_58 rfl ?_
      refine lv_topl (fun z365 e366 => ?_)
      refine lv_l2i hx hb dX12_feed_59 rfl ?_
      refine lv_topi (fun z367 e368 => ?_)
      refine lv_i2b hx hb dX12_feed_60 rfl ?_
      refine lv_topi (fun z369 e370 => ?_)
      refine va_bast hx hb hK hP hD hS 1 0 rfl rfl (vp_in_iff.mpr (by decide)) dX12_feed_61 (fun H locs hP hD hS => ?_)
      have hP : va_P D vwCl [(hm, .inr (12, [.int 0, .ref (ma 1), .int 2, .int (-1), .ref (ma 4), .int 0, .int 0, .int 0, .long 0, .int 0, .int 0, .int 0, .int 0, .long 0, .int 0, .int 0, .int 0, .ref (ma 17), .ref (ma 18), .ref (ma 19), .ref (ma 20), .ref (ma 21), .ref (ma 22), .ref (ma 23), .ref (ma 24), .ref (ma 25), .ref (ma 26), .ref (ma 27), .ref (ma 28), .ref (ma 29), .ref (ma 30), .ref (ma 31), .ref (ma 32), .ref (ma 33), .ref (ma 34), .ref (ma 35), .ref (ma 36), .ref (ma 37), .ref (ma 38), .ref (ma 39), .ref (ma 40), .ref (ma 41), .ref (ma 42), .ref (ma 43), .ref (ma 44), .ref (ma 45), .ref (ma 46), .ref (ma 47), .ref (ma 48), .int 0, .int 0, .int 0, .int 0, .int 0, .int 0, .int 0, .int 0, .int 0, .int 0, .ref (ma 59), .ref (ma 60), .int 0, .int 0, .int 0, .int 0, .int 0, .int 0, .ref (ma 67), .ref (ma 68), .ref (ma 69), .int 0, .int (-1), .int 0, .ref (ma 73)])), ((ma 1), .inl (cy 0, 1600, .inl (upd f360 (2 : Int32).toNatClampNeg (vp_nar .byte z369))))] H := hP
      have hD : va_D A [(hm, .inr (12, [.int 0, .ref (ma 1), .int 2, .int (-1), .ref (ma 4), .int 0, .int 0, .int 0, .long 0, .int 0, .int 0, .int 0, .int 0, .long 0, .int 0, .int 0, .int 0, .ref (ma 17), .ref (ma 18), .ref (ma 19), .ref (ma 20), .ref (ma 21), .ref (ma 22), .ref (ma 23), .ref (ma 24), .ref (ma 25), .ref (ma 26), .ref (ma 27), .ref (ma 28), .ref (ma 29), .ref (ma 30), .ref (ma 31), .ref (ma 32), .ref (ma 33), .ref (ma 34), .ref (ma 35), .ref (ma 36), .ref (ma 37), .ref (ma 38), .ref (ma 39), .ref (ma 40), .ref (ma 41), .ref (ma 42), .ref (ma 43), .ref (ma 44), .ref (ma 45), .ref (ma 46), .ref (ma 47), .ref (ma 48), .int 0, .int 0, .int 0, .int 0, .int 0, .int 0, .int 0, .int 0, .int 0, .int 0, .ref (ma 59), .ref (ma 60), .int 0, .int 0, .int 0, .int 0, .int 0, .int 0, .ref (ma 67), .ref (ma 68), .ref (ma 69), .int 0, .int (-1), .int 0, .ref (ma 73)])), ((ma 1), .inl (cy 0, 1600, .inl (upd f360 (2 : Int32).toNatClampNeg (vp_nar .byte z369))))] := hD
      generalize hff371 : (upd f360 (2 : Int32).toNatClampNeg (vp_nar .byte z369)) = f371 at hP hD
      refine lv_aload_n hx hb dX12_feed_62 rfl (lv_at hl 1 rfl) ?_
      refine lv_dup hx hb dX12_feed_63 rfl ?_
      refine va_get (D := D) (ci := 12) (v := .int 2) (C := RX12) (T := TX12) (N := 74) hx hb hT i_TX12 hown hK hP 0 rfl rfl 2 (by decide) (hT _ t_1717) (fun _ h9 => h9) rfl dX12_feed_64 ?_
      refine lv_iconst (v := 1) hx hb dX12_feed_67 (by decide) ?_
      refine lv_iadd hx hb dX12_feed_68 ?_
      refine lv_topi (fun z372 e373 => ?_)
      obtain rfl : z372 = 3 := e373.trans (by first | decide | rfl)
      refine va_put (D := D) (ci := 12) (v := .int 3) (ty := .int) (C := RX12) (T := TX12) (N := 74) hx hb hT i_TX12 tyX12 tyX12_ok nmX12 hown hK hP hD hS 0 rfl rfl 2 (by decide) (hT _ t_1717) (fun _ h9 => h9) rfl (by decide +kernel) rfl rfl (Nat.le_of_ble_eq_true rfl) dX12_feed_69 (fun H locs hP hD hS => ?_)
      have hP : va_P D vwCl [(hm, .inr (12, [.int 0, .ref (ma 1), .int 3, .int (-1), .ref (ma 4), .int 0, .int 0, .int 0, .long 0, .int 0, .int 0, .int 0, .int 0, .long 0, .int 0, .int 0, .int 0, .ref (ma 17), .ref (ma 18), .ref (ma 19), .ref (ma 20), .ref (ma 21), .ref (ma 22), .ref (ma 23), .ref (ma 24), .ref (ma 25), .ref (ma 26), .ref (ma 27), .ref (ma 28), .ref (ma 29), .ref (ma 30), .ref (ma 31), .ref (ma 32), .ref (ma 33), .ref (ma 34), .ref (ma 35), .ref (ma 36), .ref (ma 37), .ref (ma 38), .ref (ma 39), .ref (ma 40), .ref (ma 41), .ref (ma 42), .ref (ma 43), .ref (ma 44), .ref (ma 45), .ref (ma 46), .ref (ma 47), .ref (ma 48), .int 0, .int 0, .int 0, .int 0, .int 0, .int 0, .int 0, .int 0, .int 0, .int 0, .ref (ma 59), .ref (ma 60), .int 0, .int 0, .int 0, .int 0, .int 0, .int 0, .ref (ma 67), .ref (ma 68), .ref (ma 69), .int 0, .int (-1), .int 0, .ref (ma 73)])), ((ma 1), .inl (cy 0, 1600, .inl f371))] H := hP
      have hD : va_D A [(hm, .inr (12, [.int 0, .ref (ma 1), .int 3, .int (-1), .ref (ma 4), .int 0, .int 0, .int 0, .long 0, .int 0, .int 0, .int 0, .int 0, .long 0, .int 0, .int 0, .int 0, .ref (ma 17), .ref (ma 18), .ref (ma 19), .ref (ma 20), .ref (ma 21), .ref (ma 22), .ref (ma 23), .ref (ma 24), .ref (ma 25), .ref (ma 26), .ref (ma 27), .ref (ma 28), .ref (ma 29), .ref (ma 30), .ref (ma 31), .ref (ma 32), .ref (ma 33), .ref (ma 34), .ref (ma 35), .ref (ma 36), .ref (ma 37), .ref (ma 38), .ref (ma 39), .ref (ma 40), .ref (ma 41), .ref (ma 42), .ref (ma 43), .ref (ma 44), .ref (ma 45), .ref (ma 46), .ref (ma 47), .ref (ma 48), .int 0, .int 0, .int 0, .int 0, .int 0, .int 0, .int 0, .int 0, .int 0, .int 0, .ref (ma 59), .ref (ma 60), .int 0, .int 0, .int 0, .int 0, .int 0, .int 0, .ref (ma 67), .ref (ma 68), .ref (ma 69), .int 0, .int (-1), .int 0, .ref (ma 73)])), ((ma 1), .inl (cy 0, 1600, .inl f371))] := hD
      refine lv_iinc (v := 4) (lv' := [(4, .int 4), (0, .ref hm), (1, .long p0), (3, .int (nI 8))]) hx hb dX12_feed_72 hl (k := 0) rfl (by decide) (by decide) rfl (fun ls hl => ?_)
      refine lv_goto (tgt := 39) hx hb dX12_feed_75 (by decide) ?_
      refine lv_iload hx hb dX12_feed_39 (lv_at hl 0 rfl) ?_
      refine lv_if_lt (tgt := 78) hx hb dX12_feed_41 (by decide) (fun c9 => absurd c9 (by decide)) (fun _ => ?_)
      refine lv_aload_n hx hb dX12_feed_44 rfl (lv_at hl 1 rfl) ?_
      refine va_get (D := D) (ci := 12) (v := .ref (ma 1)) (C := RX12) (T := TX12) (N := 74) hx hb hT i_TX12 hown hK hP 0 rfl rfl 1 (by decide) (hT _ t_1716) (fun _ h9 => h9) rfl dX12_feed_45 ?_
      refine lv_aload_n hx hb dX12_feed_48 rfl (lv_at hl 1 rfl) ?_
      refine va_get (D := D) (ci := 12) (v := .int 3) (C := RX12) (T := TX12) (N := 74) hx hb hT i_TX12 hown hK hP 0 rfl rfl 2 (by decide) (hT _ t_1717) (fun _ h9 => h9) rfl dX12_feed_49 ?_
      refine lv_lload_n hx hb dX12_feed_52 rfl (lv_at hl 2 rfl) ?_
      refine lv_bipush (v := 8) hx hb dX12_feed_53 (by decide) ?_
      refine lv_iload hx hb dX12_feed_55 (lv_at hl 0 rfl) ?_
      refine lv_imul hx hb dX12_feed_57 ?_
      refine lv_topi (fun z374 e375 => ?_)
      obtain rfl : z374 = 32 := e375.trans (by first | decide | rfl)
      refine lv_lshr hx hb dX12_feed_58 rfl ?_
      refine lv_topl (fun z376 e377 => ?_)
      refine lv_l2i hx hb dX12_feed_59 rfl ?_
      refine lv_topi (fun z378 e379 => ?_)
      refine lv_i2b hx hb dX12_feed_60 rfl ?_
      refine lv_topi (fun z380 e381 => ?_)
      refine va_bast hx hb hK hP hD hS 1 0 rfl rfl (vp_in_iff.mpr (by decide)) dX12_feed_61 (fun H locs hP hD hS => ?_)
      have hP : va_P D vwCl [(hm, .inr (12, [.int 0, .ref (ma 1), .int 3, .int (-1), .ref (ma 4), .int 0, .int 0, .int 0, .long 0, .int 0, .int 0, .int 0, .int 0, .long 0, .int 0, .int 0, .int 0, .ref (ma 17), .ref (ma 18), .ref (ma 19), .ref (ma 20), .ref (ma 21), .ref (ma 22), .ref (ma 23), .ref (ma 24), .ref (ma 25), .ref (ma 26), .ref (ma 27), .ref (ma 28), .ref (ma 29), .ref (ma 30), .ref (ma 31), .ref (ma 32), .ref (ma 33), .ref (ma 34), .ref (ma 35), .ref (ma 36), .ref (ma 37), .ref (ma 38), .ref (ma 39), .ref (ma 40), .ref (ma 41), .ref (ma 42), .ref (ma 43), .ref (ma 44), .ref (ma 45), .ref (ma 46), .ref (ma 47), .ref (ma 48), .int 0, .int 0, .int 0, .int 0, .int 0, .int 0, .int 0, .int 0, .int 0, .int 0, .ref (ma 59), .ref (ma 60), .int 0, .int 0, .int 0, .int 0, .int 0, .int 0, .ref (ma 67), .ref (ma 68), .ref (ma 69), .int 0, .int (-1), .int 0, .ref (ma 73)])), ((ma 1), .inl (cy 0, 1600, .inl (upd f371 (3 : Int32).toNatClampNeg (vp_nar .byte z380))))] H := hP
      have hD : va_D A [(hm, .inr (12, [.int 0, .ref (ma 1), .int 3, .int (-1), .ref (ma 4), .int 0, .int 0, .int 0, .long 0, .int 0, .int 0, .int 0, .int 0, .long 0, .int 0, .int 0, .int 0, .ref (ma 17), .ref (ma 18), .ref (ma 19), .ref (ma 20), .ref (ma 21), .ref (ma 22), .ref (ma 23), .ref (ma 24), .ref (ma 25), .ref (ma 26), .ref (ma 27), .ref (ma 28), .ref (ma 29), .ref (ma 30), .ref (ma 31), .ref (ma 32), .ref (ma 33), .ref (ma 34), .ref (ma 35), .ref (ma 36), .ref (ma 37), .ref (ma 38), .ref (ma 39), .ref (ma 40), .ref (ma 41), .ref (ma 42), .ref (ma 43), .ref (ma 44), .ref (ma 45), .ref (ma 46), .ref (ma 47), .ref (ma 48), .int 0, .int 0, .int 0, .int 0, .int 0, .int 0, .int 0, .int 0, .int 0, .int 0, .ref (ma 59), .ref (ma 60), .int 0, .int 0, .int 0, .int 0, .int 0, .int 0, .ref (ma 67), .ref (ma 68), .ref (ma 69), .int 0, .int (-1), .int 0, .ref (ma 73)])), ((ma 1), .inl (cy 0, 1600, .inl (upd f371 (3 : Int32).toNatClampNeg (vp_nar .byte z380))))] := hD
      generalize hff382 : (upd f371 (3 : Int32).toNatClampNeg (vp_nar .byte z380)) = f382 at hP hD
      refine lv_aload_n hx hb dX12_feed_62 rfl (lv_at hl 1 rfl) ?_
      refine lv_dup hx hb dX12_feed_63 rfl ?_
      refine va_get (D := D) (ci := 12) (v := .int 3) (C := RX12) (T := TX12) (N := 74) hx hb hT i_TX12 hown hK hP 0 rfl rfl 2 (by decide) (hT _ t_1717) (fun _ h9 => h9) rfl dX12_feed_64 ?_
      refine lv_iconst (v := 1) hx hb dX12_feed_67 (by decide) ?_
      refine lv_iadd hx hb dX12_feed_68 ?_
      refine lv_topi (fun z383 e384 => ?_)
      obtain rfl : z383 = 4 := e384.trans (by first | decide | rfl)
      refine va_put (D := D) (ci := 12) (v := .int 4) (ty := .int) (C := RX12) (T := TX12) (N := 74) hx hb hT i_TX12 tyX12 tyX12_ok nmX12 hown hK hP hD hS 0 rfl rfl 2 (by decide) (hT _ t_1717) (fun _ h9 => h9) rfl (by decide +kernel) rfl rfl (Nat.le_of_ble_eq_true rfl) dX12_feed_69 (fun H locs hP hD hS => ?_)
      have hP : va_P D vwCl [(hm, .inr (12, [.int 0, .ref (ma 1), .int 4, .int (-1), .ref (ma 4), .int 0, .int 0, .int 0, .long 0, .int 0, .int 0, .int 0, .int 0, .long 0, .int 0, .int 0, .int 0, .ref (ma 17), .ref (ma 18), .ref (ma 19), .ref (ma 20), .ref (ma 21), .ref (ma 22), .ref (ma 23), .ref (ma 24), .ref (ma 25), .ref (ma 26), .ref (ma 27), .ref (ma 28), .ref (ma 29), .ref (ma 30), .ref (ma 31), .ref (ma 32), .ref (ma 33), .ref (ma 34), .ref (ma 35), .ref (ma 36), .ref (ma 37), .ref (ma 38), .ref (ma 39), .ref (ma 40), .ref (ma 41), .ref (ma 42), .ref (ma 43), .ref (ma 44), .ref (ma 45), .ref (ma 46), .ref (ma 47), .ref (ma 48), .int 0, .int 0, .int 0, .int 0, .int 0, .int 0, .int 0, .int 0, .int 0, .int 0, .ref (ma 59), .ref (ma 60), .int 0, .int 0, .int 0, .int 0, .int 0, .int 0, .ref (ma 67), .ref (ma 68), .ref (ma 69), .int 0, .int (-1), .int 0, .ref (ma 73)])), ((ma 1), .inl (cy 0, 1600, .inl f382))] H := hP
      have hD : va_D A [(hm, .inr (12, [.int 0, .ref (ma 1), .int 4, .int (-1), .ref (ma 4), .int 0, .int 0, .int 0, .long 0, .int 0, .int 0, .int 0, .int 0, .long 0, .int 0, .int 0, .int 0, .ref (ma 17), .ref (ma 18), .ref (ma 19), .ref (ma 20), .ref (ma 21), .ref (ma 22), .ref (ma 23), .ref (ma 24), .ref (ma 25), .ref (ma 26), .ref (ma 27), .ref (ma 28), .ref (ma 29), .ref (ma 30), .ref (ma 31), .ref (ma 32), .ref (ma 33), .ref (ma 34), .ref (ma 35), .ref (ma 36), .ref (ma 37), .ref (ma 38), .ref (ma 39), .ref (ma 40), .ref (ma 41), .ref (ma 42), .ref (ma 43), .ref (ma 44), .ref (ma 45), .ref (ma 46), .ref (ma 47), .ref (ma 48), .int 0, .int 0, .int 0, .int 0, .int 0, .int 0, .int 0, .int 0, .int 0, .int 0, .ref (ma 59), .ref (ma 60), .int 0, .int 0, .int 0, .int 0, .int 0, .int 0, .ref (ma 67), .ref (ma 68), .ref (ma 69), .int 0, .int (-1), .int 0, .ref (ma 73)])), ((ma 1), .inl (cy 0, 1600, .inl f382))] := hD
      refine lv_iinc (v := 3) (lv' := [(4, .int 3), (0, .ref hm), (1, .long p0), (3, .int (nI 8))]) hx hb dX12_feed_72 hl (k := 0) rfl (by decide) (by decide) rfl (fun ls hl => ?_)
      refine lv_goto (tgt := 39) hx hb dX12_feed_75 (by decide) ?_
      refine lv_iload hx hb dX12_feed_39 (lv_at hl 0 rfl) ?_
      refine lv_if_lt (tgt := 78) hx hb dX12_feed_41 (by decide) (fun c9 => absurd c9 (by decide)) (fun _ => ?_)
      refine lv_aload_n hx hb dX12_feed_44 rfl (lv_at hl 1 rfl) ?_
      refine va_get (D := D) (ci := 12) (v := .ref (ma 1)) (C := RX12) (T := TX12) (N := 74) hx hb hT i_TX12 hown hK hP 0 rfl rfl 1 (by decide) (hT _ t_1716) (fun _ h9 => h9) rfl dX12_feed_45 ?_
      refine lv_aload_n hx hb dX12_feed_48 rfl (lv_at hl 1 rfl) ?_
      refine va_get (D := D) (ci := 12) (v := .int 4) (C := RX12) (T := TX12) (N := 74) hx hb hT i_TX12 hown hK hP 0 rfl rfl 2 (by decide) (hT _ t_1717) (fun _ h9 => h9) rfl dX12_feed_49 ?_
      refine lv_lload_n hx hb dX12_feed_52 rfl (lv_at hl 2 rfl) ?_
      refine lv_bipush (v := 8) hx hb dX12_feed_53 (by decide) ?_
      refine lv_iload hx hb dX12_feed_55 (lv_at hl 0 rfl) ?_
      refine lv_imul hx hb dX12_feed_57 ?_
      refine lv_topi (fun z385 e386 => ?_)
      obtain rfl : z385 = 24 := e386.trans (by first | decide | rfl)
      refine lv_lshr hx hb dX12_feed_58 rfl ?_
      refine lv_topl (fun z387 e388 => ?_)
      refine lv_l2i hx hb dX12_feed_59 rfl ?_
      refine lv_topi (fun z389 e390 => ?_)
      refine lv_i2b hx hb dX12_feed_60 rfl ?_
      refine lv_topi (fun z391 e392 => ?_)
      refine va_bast hx hb hK hP hD hS 1 0 rfl rfl (vp_in_iff.mpr (by decide)) dX12_feed_61 (fun H locs hP hD hS => ?_)
      have hP : va_P D vwCl [(hm, .inr (12, [.int 0, .ref (ma 1), .int 4, .int (-1), .ref (ma 4), .int 0, .int 0, .int 0, .long 0, .int 0, .int 0, .int 0, .int 0, .long 0, .int 0, .int 0, .int 0, .ref (ma 17), .ref (ma 18), .ref (ma 19), .ref (ma 20), .ref (ma 21), .ref (ma 22), .ref (ma 23), .ref (ma 24), .ref (ma 25), .ref (ma 26), .ref (ma 27), .ref (ma 28), .ref (ma 29), .ref (ma 30), .ref (ma 31), .ref (ma 32), .ref (ma 33), .ref (ma 34), .ref (ma 35), .ref (ma 36), .ref (ma 37), .ref (ma 38), .ref (ma 39), .ref (ma 40), .ref (ma 41), .ref (ma 42), .ref (ma 43), .ref (ma 44), .ref (ma 45), .ref (ma 46), .ref (ma 47), .ref (ma 48), .int 0, .int 0, .int 0, .int 0, .int 0, .int 0, .int 0, .int 0, .int 0, .int 0, .ref (ma 59), .ref (ma 60), .int 0, .int 0, .int 0, .int 0, .int 0, .int 0, .ref (ma 67), .ref (ma 68), .ref (ma 69), .int 0, .int (-1), .int 0, .ref (ma 73)])), ((ma 1), .inl (cy 0, 1600, .inl (upd f382 (4 : Int32).toNatClampNeg (vp_nar .byte z391))))] H := hP
      have hD : va_D A [(hm, .inr (12, [.int 0, .ref (ma 1), .int 4, .int (-1), .ref (ma 4), .int 0, .int 0, .int 0, .long 0, .int 0, .int 0, .int 0, .int 0, .long 0, .int 0, .int 0, .int 0, .ref (ma 17), .ref (ma 18), .ref (ma 19), .ref (ma 20), .ref (ma 21), .ref (ma 22), .ref (ma 23), .ref (ma 24), .ref (ma 25), .ref (ma 26), .ref (ma 27), .ref (ma 28), .ref (ma 29), .ref (ma 30), .ref (ma 31), .ref (ma 32), .ref (ma 33), .ref (ma 34), .ref (ma 35), .ref (ma 36), .ref (ma 37), .ref (ma 38), .ref (ma 39), .ref (ma 40), .ref (ma 41), .ref (ma 42), .ref (ma 43), .ref (ma 44), .ref (ma 45), .ref (ma 46), .ref (ma 47), .ref (ma 48), .int 0, .int 0, .int 0, .int 0, .int 0, .int 0, .int 0, .int 0, .int 0, .int 0, .ref (ma 59), .ref (ma 60), .int 0, .int 0, .int 0, .int 0, .int 0, .int 0, .ref (ma 67), .ref (ma 68), .ref (ma 69), .int 0, .int (-1), .int 0, .ref (ma 73)])), ((ma 1), .inl (cy 0, 1600, .inl (upd f382 (4 : Int32).toNatClampNeg (vp_nar .byte z391))))] := hD
      generalize hff393 : (upd f382 (4 : Int32).toNatClampNeg (vp_nar .byte z391)) = f393 at hP hD
      refine lv_aload_n hx hb dX12_feed_62 rfl (lv_at hl 1 rfl) ?_
      refine lv_dup hx hb dX12_feed_63 rfl ?_
      refine va_get (D := D) (ci := 12) (v := .int 4) (C := RX12) (T := TX12) (N := 74) hx hb hT i_TX12 hown hK hP 0 rfl rfl 2 (by decide) (hT _ t_1717) (fun _ h9 => h9) rfl dX12_feed_64 ?_
      refine lv_iconst (v := 1) hx hb dX12_feed_67 (by decide) ?_
      refine lv_iadd hx hb dX12_feed_68 ?_
      refine lv_topi (fun z394 e395 => ?_)
      obtain rfl : z394 = 5 := e395.trans (by first | decide | rfl)
      refine va_put (D := D) (ci := 12) (v := .int 5) (ty := .int) (C := RX12) (T := TX12) (N := 74) hx hb hT i_TX12 tyX12 tyX12_ok nmX12 hown hK hP hD hS 0 rfl rfl 2 (by decide) (hT _ t_1717) (fun _ h9 => h9) rfl (by decide +kernel) rfl rfl (Nat.le_of_ble_eq_true rfl) dX12_feed_69 (fun H locs hP hD hS => ?_)
      have hP : va_P D vwCl [(hm, .inr (12, [.int 0, .ref (ma 1), .int 5, .int (-1), .ref (ma 4), .int 0, .int 0, .int 0, .long 0, .int 0, .int 0, .int 0, .int 0, .long 0, .int 0, .int 0, .int 0, .ref (ma 17), .ref (ma 18), .ref (ma 19), .ref (ma 20), .ref (ma 21), .ref (ma 22), .ref (ma 23), .ref (ma 24), .ref (ma 25), .ref (ma 26), .ref (ma 27), .ref (ma 28), .ref (ma 29), .ref (ma 30), .ref (ma 31), .ref (ma 32), .ref (ma 33), .ref (ma 34), .ref (ma 35), .ref (ma 36), .ref (ma 37), .ref (ma 38), .ref (ma 39), .ref (ma 40), .ref (ma 41), .ref (ma 42), .ref (ma 43), .ref (ma 44), .ref (ma 45), .ref (ma 46), .ref (ma 47), .ref (ma 48), .int 0, .int 0, .int 0, .int 0, .int 0, .int 0, .int 0, .int 0, .int 0, .int 0, .ref (ma 59), .ref (ma 60), .int 0, .int 0, .int 0, .int 0, .int 0, .int 0, .ref (ma 67), .ref (ma 68), .ref (ma 69), .int 0, .int (-1), .int 0, .ref (ma 73)])), ((ma 1), .inl (cy 0, 1600, .inl f393))] H := hP
      have hD : va_D A [(hm, .inr (12, [.int 0, .ref (ma 1), .int 5, .int (-1), .ref (ma 4), .int 0, .int 0, .int 0, .long 0, .int 0, .int 0, .int 0, .int 0, .long 0, .int 0, .int 0, .int 0, .ref (ma 17), .ref (ma 18), .ref (ma 19), .ref (ma 20), .ref (ma 21), .ref (ma 22), .ref (ma 23), .ref (ma 24), .ref (ma 25), .ref (ma 26), .ref (ma 27), .ref (ma 28), .ref (ma 29), .ref (ma 30), .ref (ma 31), .ref (ma 32), .ref (ma 33), .ref (ma 34), .ref (ma 35), .ref (ma 36), .ref (ma 37), .ref (ma 38), .ref (ma 39), .ref (ma 40), .ref (ma 41), .ref (ma 42), .ref (ma 43), .ref (ma 44), .ref (ma 45), .ref (ma 46), .ref (ma 47), .ref (ma 48), .int 0, .int 0, .int 0, .int 0, .int 0, .int 0, .int 0, .int 0, .int 0, .int 0, .ref (ma 59), .ref (ma 60), .int 0, .int 0, .int 0, .int 0, .int 0, .int 0, .ref (ma 67), .ref (ma 68), .ref (ma 69), .int 0, .int (-1), .int 0, .ref (ma 73)])), ((ma 1), .inl (cy 0, 1600, .inl f393))] := hD
      refine lv_iinc (v := 2) (lv' := [(4, .int 2), (0, .ref hm), (1, .long p0), (3, .int (nI 8))]) hx hb dX12_feed_72 hl (k := 0) rfl (by decide) (by decide) rfl (fun ls hl => ?_)
      refine lv_goto (tgt := 39) hx hb dX12_feed_75 (by decide) ?_
      refine lv_iload hx hb dX12_feed_39 (lv_at hl 0 rfl) ?_
      refine lv_if_lt (tgt := 78) hx hb dX12_feed_41 (by decide) (fun c9 => absurd c9 (by decide)) (fun _ => ?_)
      refine lv_aload_n hx hb dX12_feed_44 rfl (lv_at hl 1 rfl) ?_
      refine va_get (D := D) (ci := 12) (v := .ref (ma 1)) (C := RX12) (T := TX12) (N := 74) hx hb hT i_TX12 hown hK hP 0 rfl rfl 1 (by decide) (hT _ t_1716) (fun _ h9 => h9) rfl dX12_feed_45 ?_
      refine lv_aload_n hx hb dX12_feed_48 rfl (lv_at hl 1 rfl) ?_
      refine va_get (D := D) (ci := 12) (v := .int 5) (C := RX12) (T := TX12) (N := 74) hx hb hT i_TX12 hown hK hP 0 rfl rfl 2 (by decide) (hT _ t_1717) (fun _ h9 => h9) rfl dX12_feed_49 ?_
      refine lv_lload_n hx hb dX12_feed_52 rfl (lv_at hl 2 rfl) ?_
      refine lv_bipush (v := 8) hx hb dX12_feed_53 (by decide) ?_
      refine lv_iload hx hb dX12_feed_55 (lv_at hl 0 rfl) ?_
      refine lv_imul hx hb dX12_feed_57 ?_
      refine lv_topi (fun z396 e397 => ?_)
      obtain rfl : z396 = 16 := e397.trans (by first | decide | rfl)
      refine lv_lshr hx hb dX12_feed_58 rfl ?_
      refine lv_topl (fun z398 e399 => ?_)
      refine lv_l2i hx hb dX12_feed_59 rfl ?_
      refine lv_topi (fun z400 e401 => ?_)
      refine lv_i2b hx hb dX12_feed_60 rfl ?_
      refine lv_topi (fun z402 e403 => ?_)
      refine va_bast hx hb hK hP hD hS 1 0 rfl rfl (vp_in_iff.mpr (by decide)) dX12_feed_61 (fun H locs hP hD hS => ?_)
      have hP : va_P D vwCl [(hm, .inr (12, [.int 0, .ref (ma 1), .int 5, .int (-1), .ref (ma 4), .int 0, .int 0, .int 0, .long 0, .int 0, .int 0, .int 0, .int 0, .long 0, .int 0, .int 0, .int 0, .ref (ma 17), .ref (ma 18), .ref (ma 19), .ref (ma 20), .ref (ma 21), .ref (ma 22), .ref (ma 23), .ref (ma 24), .ref (ma 25), .ref (ma 26), .ref (ma 27), .ref (ma 28), .ref (ma 29), .ref (ma 30), .ref (ma 31), .ref (ma 32), .ref (ma 33), .ref (ma 34), .ref (ma 35), .ref (ma 36), .ref (ma 37), .ref (ma 38), .ref (ma 39), .ref (ma 40), .ref (ma 41), .ref (ma 42), .ref (ma 43), .ref (ma 44), .ref (ma 45), .ref (ma 46), .ref (ma 47), .ref (ma 48), .int 0, .int 0, .int 0, .int 0, .int 0, .int 0, .int 0, .int 0, .int 0, .int 0, .ref (ma 59), .ref (ma 60), .int 0, .int 0, .int 0, .int 0, .int 0, .int 0, .ref (ma 67), .ref (ma 68), .ref (ma 69), .int 0, .int (-1), .int 0, .ref (ma 73)])), ((ma 1), .inl (cy 0, 1600, .inl (upd f393 (5 : Int32).toNatClampNeg (vp_nar .byte z402))))] H := hP
      have hD : va_D A [(hm, .inr (12, [.int 0, .ref (ma 1), .int 5, .int (-1), .ref (ma 4), .int 0, .int 0, .int 0, .long 0, .int 0, .int 0, .int 0, .int 0, .long 0, .int 0, .int 0, .int 0, .ref (ma 17), .ref (ma 18), .ref (ma 19), .ref (ma 20), .ref (ma 21), .ref (ma 22), .ref (ma 23), .ref (ma 24), .ref (ma 25), .ref (ma 26), .ref (ma 27), .ref (ma 28), .ref (ma 29), .ref (ma 30), .ref (ma 31), .ref (ma 32), .ref (ma 33), .ref (ma 34), .ref (ma 35), .ref (ma 36), .ref (ma 37), .ref (ma 38), .ref (ma 39), .ref (ma 40), .ref (ma 41), .ref (ma 42), .ref (ma 43), .ref (ma 44), .ref (ma 45), .ref (ma 46), .ref (ma 47), .ref (ma 48), .int 0, .int 0, .int 0, .int 0, .int 0, .int 0, .int 0, .int 0, .int 0, .int 0, .ref (ma 59), .ref (ma 60), .int 0, .int 0, .int 0, .int 0, .int 0, .int 0, .ref (ma 67), .ref (ma 68), .ref (ma 69), .int 0, .int (-1), .int 0, .ref (ma 73)])), ((ma 1), .inl (cy 0, 1600, .inl (upd f393 (5 : Int32).toNatClampNeg (vp_nar .byte z402))))] := hD
      generalize hff404 : (upd f393 (5 : Int32).toNatClampNeg (vp_nar .byte z402)) = f404 at hP hD
      refine lv_aload_n hx hb dX12_feed_62 rfl (lv_at hl 1 rfl) ?_
      refine lv_dup hx hb dX12_feed_63 rfl ?_
      refine va_get (D := D) (ci := 12) (v := .int 5) (C := RX12) (T := TX12) (N := 74) hx hb hT i_TX12 hown hK hP 0 rfl rfl 2 (by decide) (hT _ t_1717) (fun _ h9 => h9) rfl dX12_feed_64 ?_
      refine lv_iconst (v := 1) hx hb dX12_feed_67 (by decide) ?_
      refine lv_iadd hx hb dX12_feed_68 ?_
      refine lv_topi (fun z405 e406 => ?_)
      obtain rfl : z405 = 6 := e406.trans (by first | decide | rfl)
      refine va_put (D := D) (ci := 12) (v := .int 6) (ty := .int) (C := RX12) (T := TX12) (N := 74) hx hb hT i_TX12 tyX12 tyX12_ok nmX12 hown hK hP hD hS 0 rfl rfl 2 (by decide) (hT _ t_1717) (fun _ h9 => h9) rfl (by decide +kernel) rfl rfl (Nat.le_of_ble_eq_true rfl) dX12_feed_69 (fun H locs hP hD hS => ?_)
      have hP : va_P D vwCl [(hm, .inr (12, [.int 0, .ref (ma 1), .int 6, .int (-1), .ref (ma 4), .int 0, .int 0, .int 0, .long 0, .int 0, .int 0, .int 0, .int 0, .long 0, .int 0, .int 0, .int 0, .ref (ma 17), .ref (ma 18), .ref (ma 19), .ref (ma 20), .ref (ma 21), .ref (ma 22), .ref (ma 23), .ref (ma 24), .ref (ma 25), .ref (ma 26), .ref (ma 27), .ref (ma 28), .ref (ma 29), .ref (ma 30), .ref (ma 31), .ref (ma 32), .ref (ma 33), .ref (ma 34), .ref (ma 35), .ref (ma 36), .ref (ma 37), .ref (ma 38), .ref (ma 39), .ref (ma 40), .ref (ma 41), .ref (ma 42), .ref (ma 43), .ref (ma 44), .ref (ma 45), .ref (ma 46), .ref (ma 47), .ref (ma 48), .int 0, .int 0, .int 0, .int 0, .int 0, .int 0, .int 0, .int 0, .int 0, .int 0, .ref (ma 59), .ref (ma 60), .int 0, .int 0, .int 0, .int 0, .int 0, .int 0, .ref (ma 67), .ref (ma 68), .ref (ma 69), .int 0, .int (-1), .int 0, .ref (ma 73)])), ((ma 1), .inl (cy 0, 1600, .inl f404))] H := hP
      have hD : va_D A [(hm, .inr (12, [.int 0, .ref (ma 1), .int 6, .int (-1), .ref (ma 4), .int 0, .int 0, .int 0, .long 0, .int 0, .int 0, .int 0, .int 0, .long 0, .int 0, .int 0, .int 0, .ref (ma 17), .ref (ma 18), .ref (ma 19), .ref (ma 20), .ref (ma 21), .ref (ma 22), .ref (ma 23), .ref (ma 24), .ref (ma 25), .ref (ma 26), .ref (ma 27), .ref (ma 28), .ref (ma 29), .ref (ma 30), .ref (ma 31), .ref (ma 32), .ref (ma 33), .ref (ma 34), .ref (ma 35), .ref (ma 36), .ref (ma 37), .ref (ma 38), .ref (ma 39), .ref (ma 40), .ref (ma 41), .ref (ma 42), .ref (ma 43), .ref (ma 44), .ref (ma 45), .ref (ma 46), .ref (ma 47), .ref (ma 48), .int 0, .int 0, .int 0, .int 0, .int 0, .int 0, .int 0, .int 0, .int 0, .int 0, .ref (ma 59), .ref (ma 60), .int 0, .int 0, .int 0, .int 0, .int 0, .int 0, .ref (ma 67), .ref (ma 68), .ref (ma 69), .int 0, .int (-1), .int 0, .ref (ma 73)])), ((ma 1), .inl (cy 0, 1600, .inl f404))] := hD
      refine lv_iinc (v := 1) (lv' := [(4, .int 1), (0, .ref hm), (1, .long p0), (3, .int (nI 8))]) hx hb dX12_feed_72 hl (k := 0) rfl (by decide) (by decide) rfl (fun ls hl => ?_)
      refine lv_goto (tgt := 39) hx hb dX12_feed_75 (by decide) ?_
      refine lv_iload hx hb dX12_feed_39 (lv_at hl 0 rfl) ?_
      refine lv_if_lt (tgt := 78) hx hb dX12_feed_41 (by decide) (fun c9 => absurd c9 (by decide)) (fun _ => ?_)
      refine lv_aload_n hx hb dX12_feed_44 rfl (lv_at hl 1 rfl) ?_
      refine va_get (D := D) (ci := 12) (v := .ref (ma 1)) (C := RX12) (T := TX12) (N := 74) hx hb hT i_TX12 hown hK hP 0 rfl rfl 1 (by decide) (hT _ t_1716) (fun _ h9 => h9) rfl dX12_feed_45 ?_
      refine lv_aload_n hx hb dX12_feed_48 rfl (lv_at hl 1 rfl) ?_
      refine va_get (D := D) (ci := 12) (v := .int 6) (C := RX12) (T := TX12) (N := 74) hx hb hT i_TX12 hown hK hP 0 rfl rfl 2 (by decide) (hT _ t_1717) (fun _ h9 => h9) rfl dX12_feed_49 ?_
      refine lv_lload_n hx hb dX12_feed_52 rfl (lv_at hl 2 rfl) ?_
      refine lv_bipush (v := 8) hx hb dX12_feed_53 (by decide) ?_
      refine lv_iload hx hb dX12_feed_55 (lv_at hl 0 rfl) ?_
      refine lv_imul hx hb dX12_feed_57 ?_
      refine lv_topi (fun z407 e408 => ?_)
      obtain rfl : z407 = 8 := e408.trans (by first | decide | rfl)
      refine lv_lshr hx hb dX12_feed_58 rfl ?_
      refine lv_topl (fun z409 e410 => ?_)
      refine lv_l2i hx hb dX12_feed_59 rfl ?_
      refine lv_topi (fun z411 e412 => ?_)
      refine lv_i2b hx hb dX12_feed_60 rfl ?_
      refine lv_topi (fun z413 e414 => ?_)
      refine va_bast hx hb hK hP hD hS 1 0 rfl rfl (vp_in_iff.mpr (by decide)) dX12_feed_61 (fun H locs hP hD hS => ?_)
      have hP : va_P D vwCl [(hm, .inr (12, [.int 0, .ref (ma 1), .int 6, .int (-1), .ref (ma 4), .int 0, .int 0, .int 0, .long 0, .int 0, .int 0, .int 0, .int 0, .long 0, .int 0, .int 0, .int 0, .ref (ma 17), .ref (ma 18), .ref (ma 19), .ref (ma 20), .ref (ma 21), .ref (ma 22), .ref (ma 23), .ref (ma 24), .ref (ma 25), .ref (ma 26), .ref (ma 27), .ref (ma 28), .ref (ma 29), .ref (ma 30), .ref (ma 31), .ref (ma 32), .ref (ma 33), .ref (ma 34), .ref (ma 35), .ref (ma 36), .ref (ma 37), .ref (ma 38), .ref (ma 39), .ref (ma 40), .ref (ma 41), .ref (ma 42), .ref (ma 43), .ref (ma 44), .ref (ma 45), .ref (ma 46), .ref (ma 47), .ref (ma 48), .int 0, .int 0, .int 0, .int 0, .int 0, .int 0, .int 0, .int 0, .int 0, .int 0, .ref (ma 59), .ref (ma 60), .int 0, .int 0, .int 0, .int 0, .int 0, .int 0, .ref (ma 67), .ref (ma 68), .ref (ma 69), .int 0, .int (-1), .int 0, .ref (ma 73)])), ((ma 1), .inl (cy 0, 1600, .inl (upd f404 (6 : Int32).toNatClampNeg (vp_nar .byte z413))))] H := hP
      have hD : va_D A [(hm, .inr (12, [.int 0, .ref (ma 1), .int 6, .int (-1), .ref (ma 4), .int 0, .int 0, .int 0, .long 0, .int 0, .int 0, .int 0, .int 0, .long 0, .int 0, .int 0, .int 0, .ref (ma 17), .ref (ma 18), .ref (ma 19), .ref (ma 20), .ref (ma 21), .ref (ma 22), .ref (ma 23), .ref (ma 24), .ref (ma 25), .ref (ma 26), .ref (ma 27), .ref (ma 28), .ref (ma 29), .ref (ma 30), .ref (ma 31), .ref (ma 32), .ref (ma 33), .ref (ma 34), .ref (ma 35), .ref (ma 36), .ref (ma 37), .ref (ma 38), .ref (ma 39), .ref (ma 40), .ref (ma 41), .ref (ma 42), .ref (ma 43), .ref (ma 44), .ref (ma 45), .ref (ma 46), .ref (ma 47), .ref (ma 48), .int 0, .int 0, .int 0, .int 0, .int 0, .int 0, .int 0, .int 0, .int 0, .int 0, .ref (ma 59), .ref (ma 60), .int 0, .int 0, .int 0, .int 0, .int 0, .int 0, .ref (ma 67), .ref (ma 68), .ref (ma 69), .int 0, .int (-1), .int 0, .ref (ma 73)])), ((ma 1), .inl (cy 0, 1600, .inl (upd f404 (6 : Int32).toNatClampNeg (vp_nar .byte z413))))] := hD
      generalize hff415 : (upd f404 (6 : Int32).toNatClampNeg (vp_nar .byte z413)) = f415 at hP hD
      refine lv_aload_n hx hb dX12_feed_62 rfl (lv_at hl 1 rfl) ?_
      refine lv_dup hx hb dX12_feed_63 rfl ?_
      refine va_get (D := D) (ci := 12) (v := .int 6) (C := RX12) (T := TX12) (N := 74) hx hb hT i_TX12 hown hK hP 0 rfl rfl 2 (by decide) (hT _ t_1717) (fun _ h9 => h9) rfl dX12_feed_64 ?_
      refine lv_iconst (v := 1) hx hb dX12_feed_67 (by decide) ?_
      refine lv_iadd hx hb dX12_feed_68 ?_
      refine lv_topi (fun z416 e417 => ?_)
      obtain rfl : z416 = 7 := e417.trans (by first | decide | rfl)
      refine va_put (D := D) (ci := 12) (v := .int 7) (ty := .int) (C := RX12) (T := TX12) (N := 74) hx hb hT i_TX12 tyX12 tyX12_ok nmX12 hown hK hP hD hS 0 rfl rfl 2 (by decide) (hT _ t_1717) (fun _ h9 => h9) rfl (by decide +kernel) rfl rfl (Nat.le_of_ble_eq_true rfl) dX12_feed_69 (fun H locs hP hD hS => ?_)
      have hP : va_P D vwCl [(hm, .inr (12, [.int 0, .ref (ma 1), .int 7, .int (-1), .ref (ma 4), .int 0, .int 0, .int 0, .long 0, .int 0, .int 0, .int 0, .int 0, .long 0, .int 0, .int 0, .int 0, .ref (ma 17), .ref (ma 18), .ref (ma 19), .ref (ma 20), .ref (ma 21), .ref (ma 22), .ref (ma 23), .ref (ma 24), .ref (ma 25), .ref (ma 26), .ref (ma 27), .ref (ma 28), .ref (ma 29), .ref (ma 30), .ref (ma 31), .ref (ma 32), .ref (ma 33), .ref (ma 34), .ref (ma 35), .ref (ma 36), .ref (ma 37), .ref (ma 38), .ref (ma 39), .ref (ma 40), .ref (ma 41), .ref (ma 42), .ref (ma 43), .ref (ma 44), .ref (ma 45), .ref (ma 46), .ref (ma 47), .ref (ma 48), .int 0, .int 0, .int 0, .int 0, .int 0, .int 0, .int 0, .int 0, .int 0, .int 0, .ref (ma 59), .ref (ma 60), .int 0, .int 0, .int 0, .int 0, .int 0, .int 0, .ref (ma 67), .ref (ma 68), .ref (ma 69), .int 0, .int (-1), .int 0, .ref (ma 73)])), ((ma 1), .inl (cy 0, 1600, .inl f415))] H := hP
      have hD : va_D A [(hm, .inr (12, [.int 0, .ref (ma 1), .int 7, .int (-1), .ref (ma 4), .int 0, .int 0, .int 0, .long 0, .int 0, .int 0, .int 0, .int 0, .long 0, .int 0, .int 0, .int 0, .ref (ma 17), .ref (ma 18), .ref (ma 19), .ref (ma 20), .ref (ma 21), .ref (ma 22), .ref (ma 23), .ref (ma 24), .ref (ma 25), .ref (ma 26), .ref (ma 27), .ref (ma 28), .ref (ma 29), .ref (ma 30), .ref (ma 31), .ref (ma 32), .ref (ma 33), .ref (ma 34), .ref (ma 35), .ref (ma 36), .ref (ma 37), .ref (ma 38), .ref (ma 39), .ref (ma 40), .ref (ma 41), .ref (ma 42), .ref (ma 43), .ref (ma 44), .ref (ma 45), .ref (ma 46), .ref (ma 47), .ref (ma 48), .int 0, .int 0, .int 0, .int 0, .int 0, .int 0, .int 0, .int 0, .int 0, .int 0, .ref (ma 59), .ref (ma 60), .int 0, .int 0, .int 0, .int 0, .int 0, .int 0, .ref (ma 67), .ref (ma 68), .ref (ma 69), .int 0, .int (-1), .int 0, .ref (ma 73)])), ((ma 1), .inl (cy 0, 1600, .inl f415))] := hD
      refine lv_iinc (v := 0) (lv' := [(4, .int 0), (0, .ref hm), (1, .long p0), (3, .int (nI 8))]) hx hb dX12_feed_72 hl (k := 0) rfl (by decide) (by decide) rfl (fun ls hl => ?_)
      refine lv_goto (tgt := 39) hx hb dX12_feed_75 (by decide) ?_
      refine lv_iload hx hb dX12_feed_39 (lv_at hl 0 rfl) ?_
      refine lv_if_lt (tgt := 78) hx hb dX12_feed_41 (by decide) (fun c9 => absurd c9 (by decide)) (fun _ => ?_)
      refine lv_aload_n hx hb dX12_feed_44 rfl (lv_at hl 1 rfl) ?_
      refine va_get (D := D) (ci := 12) (v := .ref (ma 1)) (C := RX12) (T := TX12) (N := 74) hx hb hT i_TX12 hown hK hP 0 rfl rfl 1 (by decide) (hT _ t_1716) (fun _ h9 => h9) rfl dX12_feed_45 ?_
      refine lv_aload_n hx hb dX12_feed_48 rfl (lv_at hl 1 rfl) ?_
      refine va_get (D := D) (ci := 12) (v := .int 7) (C := RX12) (T := TX12) (N := 74) hx hb hT i_TX12 hown hK hP 0 rfl rfl 2 (by decide) (hT _ t_1717) (fun _ h9 => h9) rfl dX12_feed_49 ?_
      refine lv_lload_n hx hb dX12_feed_52 rfl (lv_at hl 2 rfl) ?_
      refine lv_bipush (v := 8) hx hb dX12_feed_53 (by decide) ?_
      refine lv_iload hx hb dX12_feed_55 (lv_at hl 0 rfl) ?_
      refine lv_imul hx hb dX12_feed_57 ?_
      refine lv_topi (fun z418 e419 => ?_)
      obtain rfl : z418 = 0 := e419.trans (by first | decide | rfl)
      refine lv_lshr hx hb dX12_feed_58 rfl ?_
      refine lv_topl (fun z420 e421 => ?_)
      refine lv_l2i hx hb dX12_feed_59 rfl ?_
      refine lv_topi (fun z422 e423 => ?_)
      refine lv_i2b hx hb dX12_feed_60 rfl ?_
      refine lv_topi (fun z424 e425 => ?_)
      refine va_bast hx hb hK hP hD hS 1 0 rfl rfl (vp_in_iff.mpr (by decide)) dX12_feed_61 (fun H locs hP hD hS => ?_)
      have hP : va_P D vwCl [(hm, .inr (12, [.int 0, .ref (ma 1), .int 7, .int (-1), .ref (ma 4), .int 0, .int 0, .int 0, .long 0, .int 0, .int 0, .int 0, .int 0, .long 0, .int 0, .int 0, .int 0, .ref (ma 17), .ref (ma 18), .ref (ma 19), .ref (ma 20), .ref (ma 21), .ref (ma 22), .ref (ma 23), .ref (ma 24), .ref (ma 25), .ref (ma 26), .ref (ma 27), .ref (ma 28), .ref (ma 29), .ref (ma 30), .ref (ma 31), .ref (ma 32), .ref (ma 33), .ref (ma 34), .ref (ma 35), .ref (ma 36), .ref (ma 37), .ref (ma 38), .ref (ma 39), .ref (ma 40), .ref (ma 41), .ref (ma 42), .ref (ma 43), .ref (ma 44), .ref (ma 45), .ref (ma 46), .ref (ma 47), .ref (ma 48), .int 0, .int 0, .int 0, .int 0, .int 0, .int 0, .int 0, .int 0, .int 0, .int 0, .ref (ma 59), .ref (ma 60), .int 0, .int 0, .int 0, .int 0, .int 0, .int 0, .ref (ma 67), .ref (ma 68), .ref (ma 69), .int 0, .int (-1), .int 0, .ref (ma 73)])), ((ma 1), .inl (cy 0, 1600, .inl (upd f415 (7 : Int32).toNatClampNeg (vp_nar .byte z424))))] H := hP
      have hD : va_D A [(hm, .inr (12, [.int 0, .ref (ma 1), .int 7, .int (-1), .ref (ma 4), .int 0, .int 0, .int 0, .long 0, .int 0, .int 0, .int 0, .int 0, .long 0, .int 0, .int 0, .int 0, .ref (ma 17), .ref (ma 18), .ref (ma 19), .ref (ma 20), .ref (ma 21), .ref (ma 22), .ref (ma 23), .ref (ma 24), .ref (ma 25), .ref (ma 26), .ref (ma 27), .ref (ma 28), .ref (ma 29), .ref (ma 30), .ref (ma 31), .ref (ma 32), .ref (ma 33), .ref (ma 34), .ref (ma 35), .ref (ma 36), .ref (ma 37), .ref (ma 38), .ref (ma 39), .ref (ma 40), .ref (ma 41), .ref (ma 42), .ref (ma 43), .ref (ma 44), .ref (ma 45), .ref (ma 46), .ref (ma 47), .ref (ma 48), .int 0, .int 0, .int 0, .int 0, .int 0, .int 0, .int 0, .int 0, .int 0, .int 0, .ref (ma 59), .ref (ma 60), .int 0, .int 0, .int 0, .int 0, .int 0, .int 0, .ref (ma 67), .ref (ma 68), .ref (ma 69), .int 0, .int (-1), .int 0, .ref (ma 73)])), ((ma 1), .inl (cy 0, 1600, .inl (upd f415 (7 : Int32).toNatClampNeg (vp_nar .byte z424))))] := hD
      generalize hff426 : (upd f415 (7 : Int32).toNatClampNeg (vp_nar .byte z424)) = f426 at hP hD
      refine lv_aload_n hx hb dX12_feed_62 rfl (lv_at hl 1 rfl) ?_
      refine lv_dup hx hb dX12_feed_63 rfl ?_
      refine va_get (D := D) (ci := 12) (v := .int 7) (C := RX12) (T := TX12) (N := 74) hx hb hT i_TX12 hown hK hP 0 rfl rfl 2 (by decide) (hT _ t_1717) (fun _ h9 => h9) rfl dX12_feed_64 ?_
      refine lv_iconst (v := 1) hx hb dX12_feed_67 (by decide) ?_
      refine lv_iadd hx hb dX12_feed_68 ?_
      refine lv_topi (fun z427 e428 => ?_)
      obtain rfl : z427 = 8 := e428.trans (by first | decide | rfl)
      refine va_put (D := D) (ci := 12) (v := .int 8) (ty := .int) (C := RX12) (T := TX12) (N := 74) hx hb hT i_TX12 tyX12 tyX12_ok nmX12 hown hK hP hD hS 0 rfl rfl 2 (by decide) (hT _ t_1717) (fun _ h9 => h9) rfl (by decide +kernel) rfl rfl (Nat.le_of_ble_eq_true rfl) dX12_feed_69 (fun H locs hP hD hS => ?_)
      have hP : va_P D vwCl [(hm, .inr (12, [.int 0, .ref (ma 1), .int 8, .int (-1), .ref (ma 4), .int 0, .int 0, .int 0, .long 0, .int 0, .int 0, .int 0, .int 0, .long 0, .int 0, .int 0, .int 0, .ref (ma 17), .ref (ma 18), .ref (ma 19), .ref (ma 20), .ref (ma 21), .ref (ma 22), .ref (ma 23), .ref (ma 24), .ref (ma 25), .ref (ma 26), .ref (ma 27), .ref (ma 28), .ref (ma 29), .ref (ma 30), .ref (ma 31), .ref (ma 32), .ref (ma 33), .ref (ma 34), .ref (ma 35), .ref (ma 36), .ref (ma 37), .ref (ma 38), .ref (ma 39), .ref (ma 40), .ref (ma 41), .ref (ma 42), .ref (ma 43), .ref (ma 44), .ref (ma 45), .ref (ma 46), .ref (ma 47), .ref (ma 48), .int 0, .int 0, .int 0, .int 0, .int 0, .int 0, .int 0, .int 0, .int 0, .int 0, .ref (ma 59), .ref (ma 60), .int 0, .int 0, .int 0, .int 0, .int 0, .int 0, .ref (ma 67), .ref (ma 68), .ref (ma 69), .int 0, .int (-1), .int 0, .ref (ma 73)])), ((ma 1), .inl (cy 0, 1600, .inl f426))] H := hP
      have hD : va_D A [(hm, .inr (12, [.int 0, .ref (ma 1), .int 8, .int (-1), .ref (ma 4), .int 0, .int 0, .int 0, .long 0, .int 0, .int 0, .int 0, .int 0, .long 0, .int 0, .int 0, .int 0, .ref (ma 17), .ref (ma 18), .ref (ma 19), .ref (ma 20), .ref (ma 21), .ref (ma 22), .ref (ma 23), .ref (ma 24), .ref (ma 25), .ref (ma 26), .ref (ma 27), .ref (ma 28), .ref (ma 29), .ref (ma 30), .ref (ma 31), .ref (ma 32), .ref (ma 33), .ref (ma 34), .ref (ma 35), .ref (ma 36), .ref (ma 37), .ref (ma 38), .ref (ma 39), .ref (ma 40), .ref (ma 41), .ref (ma 42), .ref (ma 43), .ref (ma 44), .ref (ma 45), .ref (ma 46), .ref (ma 47), .ref (ma 48), .int 0, .int 0, .int 0, .int 0, .int 0, .int 0, .int 0, .int 0, .int 0, .int 0, .ref (ma 59), .ref (ma 60), .int 0, .int 0, .int 0, .int 0, .int 0, .int 0, .ref (ma 67), .ref (ma 68), .ref (ma 69), .int 0, .int (-1), .int 0, .ref (ma 73)])), ((ma 1), .inl (cy 0, 1600, .inl f426))] := hD
      refine lv_iinc (v := (-1)) (lv' := [(4, .int (-1)), (0, .ref hm), (1, .long p0), (3, .int (nI 8))]) hx hb dX12_feed_72 hl (k := 0) rfl (by decide) (by decide) rfl (fun ls hl => ?_)
      refine lv_goto (tgt := 39) hx hb dX12_feed_75 (by decide) ?_
      refine lv_iload hx hb dX12_feed_39 (lv_at hl 0 rfl) ?_
      refine lv_if_lt (tgt := 78) hx hb dX12_feed_41 (by decide) (fun _ => ?_) (fun c9 => absurd (by decide) c9)
      refine lv_aload_n hx hb dX12_feed_78 rfl (lv_at hl 1 rfl) ?_
      refine va_get (D := D) (ci := 12) (v := .int 8) (C := RX12) (T := TX12) (N := 74) hx hb hT i_TX12 hown hK hP 0 rfl rfl 2 (by decide) (hT _ t_1717) (fun _ h9 => h9) rfl dX12_feed_79 ?_
      have hP9 := hP.sub (ws' := []) [] rfl
      have hD9 := hD.sub (ws' := []) [] (by decide) rfl
      refine W.widen (k := 0) (n := 0) (Nat.le_of_ble_eq_true rfl) (Nat.le_of_ble_eq_true rfl) ?_
      exact W.iret (v := 8) hx hb hr (fun t ht hW => ⟨⟨8, (), rfl, (by decide), by rw [ht]; exact hP9, hD9⟩, hS.F ht⟩) hS.2.2 dX12_feed_82
end
section
theorem t_140 : (Jvm.Cond.initialized "java/util/AbstractCollection") ∈ TB := inTB 140 (by decide +kernel) (by decide +kernel)
theorem t_141 : (Jvm.Cond.initialized "java/util/AbstractList") ∈ TB := inTB 141 (by decide +kernel) (by decide +kernel)
theorem t_142 : (Jvm.Cond.initialized "java/util/ArrayList") ∈ TB := inTB 142 (by decide +kernel) (by decide +kernel)
theorem t_175 : (Jvm.Cond.instanceMethod ({ cls := "java/lang/Object", name := "<init>", desc := "()V" } : Jvm.MethodName)) ∈ TB := inTB 175 (by decide +kernel) (by decide +kernel)
theorem t_176 : (Jvm.Cond.code ({ cls := "java/lang/Object", name := "<init>", desc := "()V" } : Jvm.MethodName) object_method_1_code (1 : Nat) (Option.none : Option Jvm.ClassFile.FieldType)) ∈ TB := inTB 176 (by decide +kernel) (by decide +kernel)
theorem t_182 : (Jvm.Cond.methodLink "MakerStarts$Text" (3 : Nat) ({ cls := "java/lang/Object", name := "<init>", desc := "()V" } : Jvm.MethodName)) ∈ TB := inTB 182 (by decide +kernel) (by decide +kernel)
theorem t_183 : (Jvm.Cond.classLink "MakerStarts$Text" (9 : Nat) "MakerStarts$Type") ∈ TB := inTB 183 (by decide +kernel) (by decide +kernel)
theorem t_185 : (Jvm.Cond.classLink "MakerStarts$Text" (17 : Nat) "java/util/ArrayList") ∈ TB := inTB 185 (by decide +kernel) (by decide +kernel)
theorem t_186 : (Jvm.Cond.instantiable "java/util/ArrayList" (3 : Nat)) ∈ TB := inTB 186 (by decide +kernel) (by decide +kernel)
theorem t_187 : (Jvm.Cond.methodLink "MakerStarts$Text" (19 : Nat) ({ cls := "java/util/ArrayList", name := "<init>", desc := "()V" } : Jvm.MethodName)) ∈ TB := inTB 187 (by decide +kernel) (by decide +kernel)
theorem t_188 : (Jvm.Cond.instanceMethod ({ cls := "java/util/ArrayList", name := "<init>", desc := "()V" } : Jvm.MethodName)) ∈ TB := inTB 188 (by decide +kernel) (by decide +kernel)
theorem t_189 : (Jvm.Cond.code ({ cls := "java/util/ArrayList", name := "<init>", desc := "()V" } : Jvm.MethodName) prog_31_method_2_code (1 : Nat) (Option.none : Option Jvm.ClassFile.FieldType)) ∈ TB := inTB 189 (by decide +kernel) (by decide +kernel)
theorem t_190 : (Jvm.Cond.methodLink "java/util/ArrayList" (1 : Nat) ({ cls := "java/util/AbstractList", name := "<init>", desc := "()V" } : Jvm.MethodName)) ∈ TB := inTB 190 (by decide +kernel) (by decide +kernel)
theorem t_191 : (Jvm.Cond.instanceMethod ({ cls := "java/util/AbstractList", name := "<init>", desc := "()V" } : Jvm.MethodName)) ∈ TB := inTB 191 (by decide +kernel) (by decide +kernel)
theorem t_192 : (Jvm.Cond.code ({ cls := "java/util/AbstractList", name := "<init>", desc := "()V" } : Jvm.MethodName) prog_30_method_1_code (1 : Nat) (Option.none : Option Jvm.ClassFile.FieldType)) ∈ TB := inTB 192 (by decide +kernel) (by decide +kernel)
theorem t_193 : (Jvm.Cond.methodLink "java/util/AbstractList" (1 : Nat) ({ cls := "java/util/AbstractCollection", name := "<init>", desc := "()V" } : Jvm.MethodName)) ∈ TB := inTB 193 (by decide +kernel) (by decide +kernel)
theorem t_194 : (Jvm.Cond.instanceMethod ({ cls := "java/util/AbstractCollection", name := "<init>", desc := "()V" } : Jvm.MethodName)) ∈ TB := inTB 194 (by decide +kernel) (by decide +kernel)
theorem t_195 : (Jvm.Cond.code ({ cls := "java/util/AbstractCollection", name := "<init>", desc := "()V" } : Jvm.MethodName) prog_29_method_1_code (1 : Nat) (Option.none : Option Jvm.ClassFile.FieldType)) ∈ TB := inTB 195 (by decide +kernel) (by decide +kernel)
theorem t_196 : (Jvm.Cond.methodLink "java/util/AbstractCollection" (1 : Nat) ({ cls := "java/lang/Object", name := "<init>", desc := "()V" } : Jvm.MethodName)) ∈ TB := inTB 196 (by decide +kernel) (by decide +kernel)
theorem t_197 : (Jvm.Cond.fieldLink "java/util/ArrayList" (39 : Nat) "java/util/ArrayList" "DEFAULTCAPACITY_EMPTY_ELEMENTDATA" "[Ljava/lang/Object;") ∈ TB := inTB 197 (by decide +kernel) (by decide +kernel)
theorem t_199 : (Jvm.Cond.fieldLink "java/util/ArrayList" (9 : Nat) "java/util/ArrayList" "elementData" "[Ljava/lang/Object;") ∈ TB := inTB 199 (by decide +kernel) (by decide +kernel)
theorem t_200 : (Jvm.Cond.fieldLink "java/util/ArrayList" (48 : Nat) "java/util/ArrayList" "size" "I") ∈ TB := inTB 200 (by decide +kernel) (by decide +kernel)
theorem t_201 : (Jvm.Cond.fieldLink "java/util/AbstractList" (7 : Nat) "java/util/AbstractList" "modCount" "I") ∈ TB := inTB 201 (by decide +kernel) (by decide +kernel)
theorem t_202 : (Jvm.Cond.fieldLink "java/util/ArrayList" (63 : Nat) "java/util/ArrayList" "modCount" "I") ∈ TB := inTB 202 (by decide +kernel) (by decide +kernel)
theorem t_203 : (Jvm.Cond.sameField "java/util/ArrayList" "java/util/AbstractList" "modCount" "I") ∈ TB := inTB 203 (by decide +kernel) (by decide +kernel)
theorem t_212 : (Jvm.Cond.fieldLink "MakerStarts$Text" (11 : Nat) "MakerStarts$Text" "types" "[LMakerStarts$Type;") ∈ TB := inTB 212 (by decide +kernel) (by decide +kernel)
theorem t_218 : (Jvm.Cond.fieldLink "MakerStarts$Text" (20 : Nat) "MakerStarts$Text" "uses" "Ljava/util/ArrayList;") ∈ TB := inTB 218 (by decide +kernel) (by decide +kernel)
theorem t_221 : (Jvm.Cond.fieldLink "MakerStarts$Text" (24 : Nat) "MakerStarts$Text" "code" "[I") ∈ TB := inTB 221 (by decide +kernel) (by decide +kernel)
theorem t_225 : (Jvm.Cond.fieldLink "MakerStarts$Text" (28 : Nat) "MakerStarts$Text" "shape" "[I") ∈ TB := inTB 225 (by decide +kernel) (by decide +kernel)
theorem t_254 : (Jvm.Cond.arrayClass Jvm.ClassFile.FieldType.int) ∈ TB := inTB 254 (by decide +kernel) (by decide +kernel)
theorem t_353 : (Jvm.Cond.methodLink "MakerStarts$Bodies" (3 : Nat) ({ cls := "java/lang/Object", name := "<init>", desc := "()V" } : Jvm.MethodName)) ∈ TB := inTB 353 (by decide +kernel) (by decide +kernel)
theorem t_354 : (Jvm.Cond.fieldLink "MakerStarts$Bodies" (30 : Nat) "MakerStarts$Bodies" "tokens" "LMakerStarts$Tokens;") ∈ TB := inTB 354 (by decide +kernel) (by decide +kernel)
theorem t_355 : (Jvm.Cond.fieldLink "MakerStarts$Bodies" (9 : Nat) "MakerStarts$Bodies" "text" "LMakerStarts$Text;") ∈ TB := inTB 355 (by decide +kernel) (by decide +kernel)
theorem t_356 : (Jvm.Cond.fieldLink "MakerStarts$Bodies" (15 : Nat) "MakerStarts$Bodies" "member" "LMakerStarts$Member;") ∈ TB := inTB 356 (by decide +kernel) (by decide +kernel)
theorem t_357 : (Jvm.Cond.fieldLink "MakerStarts$Bodies" (19 : Nat) "MakerStarts$Bodies" "still" "Z") ∈ TB := inTB 357 (by decide +kernel) (by decide +kernel)
theorem t_358 : (Jvm.Cond.fieldLink "MakerStarts$Bodies" (23 : Nat) "MakerStarts$Bodies" "depth" "I") ∈ TB := inTB 358 (by decide +kernel) (by decide +kernel)
theorem t_359 : (Jvm.Cond.fieldLink "MakerStarts$Bodies" (27 : Nat) "MakerStarts$Bodies" "statements" "I") ∈ TB := inTB 359 (by decide +kernel) (by decide +kernel)
theorem t_388 : (Jvm.Cond.methodLink "MakerStarts$Flow" (3 : Nat) ({ cls := "java/lang/Object", name := "<init>", desc := "()V" } : Jvm.MethodName)) ∈ TB := inTB 388 (by decide +kernel) (by decide +kernel)
theorem t_389 : (Jvm.Cond.fieldLink "MakerStarts$Flow" (11 : Nat) "MakerStarts$Flow" "outs" "[I") ∈ TB := inTB 389 (by decide +kernel) (by decide +kernel)
theorem t_390 : (Jvm.Cond.fieldLink "MakerStarts$Flow" (15 : Nat) "MakerStarts$Flow" "wells" "[Z") ∈ TB := inTB 390 (by decide +kernel) (by decide +kernel)
theorem t_391 : (Jvm.Cond.fieldLink "MakerStarts$Flow" (19 : Nat) "MakerStarts$Flow" "top" "I") ∈ TB := inTB 391 (by decide +kernel) (by decide +kernel)
theorem t_392 : (Jvm.Cond.fieldLink "MakerStarts$Flow" (23 : Nat) "MakerStarts$Flow" "text" "LMakerStarts$Text;") ∈ TB := inTB 392 (by decide +kernel) (by decide +kernel)
theorem t_402 : (Jvm.Cond.arrayClass Jvm.ClassFile.FieldType.boolean) ∈ TB := inTB 402 (by decide +kernel) (by decide +kernel)
theorem t_415 : (Jvm.Cond.methodLink "MakerStarts$Frame" (3 : Nat) ({ cls := "java/lang/Object", name := "<init>", desc := "()V" } : Jvm.MethodName)) ∈ TB := inTB 415 (by decide +kernel) (by decide +kernel)
theorem t_424 : (Jvm.Cond.fieldLink "MakerStarts$Frame" (9 : Nat) "MakerStarts$Frame" "home" "LMakerStarts$Frame;") ∈ TB := inTB 424 (by decide +kernel) (by decide +kernel)
theorem t_426 : (Jvm.Cond.fieldLink "MakerStarts$Frame" (15 : Nat) "MakerStarts$Frame" "madeType" "I") ∈ TB := inTB 426 (by decide +kernel) (by decide +kernel)
theorem t_428 : (Jvm.Cond.fieldLink "MakerStarts$Frame" (19 : Nat) "MakerStarts$Frame" "madeFields" "[I") ∈ TB := inTB 428 (by decide +kernel) (by decide +kernel)
theorem t_430 : (Jvm.Cond.fieldLink "MakerStarts$Frame" (23 : Nat) "MakerStarts$Frame" "parameters" "[I") ∈ TB := inTB 430 (by decide +kernel) (by decide +kernel)
theorem t_432 : (Jvm.Cond.fieldLink "MakerStarts$Frame" (26 : Nat) "MakerStarts$Frame" "at" "[I") ∈ TB := inTB 432 (by decide +kernel) (by decide +kernel)
theorem t_433 : (Jvm.Cond.fieldLink "MakerStarts$Frame" (29 : Nat) "MakerStarts$Frame" "phases" "[I") ∈ TB := inTB 433 (by decide +kernel) (by decide +kernel)
theorem t_434 : (Jvm.Cond.fieldLink "MakerStarts$Frame" (32 : Nat) "MakerStarts$Frame" "waiting" "[I") ∈ TB := inTB 434 (by decide +kernel) (by decide +kernel)
theorem t_435 : (Jvm.Cond.fieldLink "MakerStarts$Frame" (35 : Nat) "MakerStarts$Frame" "values" "[I") ∈ TB := inTB 435 (by decide +kernel) (by decide +kernel)
theorem t_436 : (Jvm.Cond.fieldLink "MakerStarts$Frame" (38 : Nat) "MakerStarts$Frame" "tries" "I") ∈ TB := inTB 436 (by decide +kernel) (by decide +kernel)
theorem dJx4a65c_clear_da8c8_0 : decode cJx4a65c_clear_da8c8 0 = .ok (.aload_n 0, 1) := by decide +kernel
theorem dJx4a65c_clear_da8c8_1 : decode cJx4a65c_clear_da8c8 1 = .ok (.dup, 1) := by decide +kernel
theorem dJx4a65c_clear_da8c8_2 : decode cJx4a65c_clear_da8c8 2 = .ok (.getfield 63, 3) := by decide +kernel
theorem dJx4a65c_clear_da8c8_5 : decode cJx4a65c_clear_da8c8 5 = .ok (.iconst 1, 1) := by decide +kernel
theorem dJx4a65c_clear_da8c8_6 : decode cJx4a65c_clear_da8c8 6 = .ok (.iadd, 1) := by decide +kernel
theorem dJx4a65c_clear_da8c8_7 : decode cJx4a65c_clear_da8c8 7 = .ok (.putfield 63, 3) := by decide +kernel
theorem dJx4a65c_clear_da8c8_10 : decode cJx4a65c_clear_da8c8 10 = .ok (.aload_n 0, 1) := by decide +kernel
theorem dJx4a65c_clear_da8c8_11 : decode cJx4a65c_clear_da8c8 11 = .ok (.getfield 9, 3) := by decide +kernel
theorem dJx4a65c_clear_da8c8_14 : decode cJx4a65c_clear_da8c8 14 = .ok (.astore_n 1, 1) := by decide +kernel
theorem dJx4a65c_clear_da8c8_15 : decode cJx4a65c_clear_da8c8 15 = .ok (.aload_n 0, 1) := by decide +kernel
theorem dJx4a65c_clear_da8c8_16 : decode cJx4a65c_clear_da8c8 16 = .ok (.getfield 48, 3) := by decide +kernel
theorem dJx4a65c_clear_da8c8_19 : decode cJx4a65c_clear_da8c8 19 = .ok (.istore_n 2, 1) := by decide +kernel
theorem dJx4a65c_clear_da8c8_20 : decode cJx4a65c_clear_da8c8 20 = .ok (.aload_n 0, 1) := by decide +kernel
theorem dJx4a65c_clear_da8c8_21 : decode cJx4a65c_clear_da8c8 21 = .ok (.iconst 0, 1) := by decide +kernel
theorem dJx4a65c_clear_da8c8_22 : decode cJx4a65c_clear_da8c8 22 = .ok (.dup_x1, 1) := by decide +kernel
theorem dJx4a65c_clear_da8c8_23 : decode cJx4a65c_clear_da8c8 23 = .ok (.putfield 48, 3) := by decide +kernel
theorem dJx4a65c_clear_da8c8_26 : decode cJx4a65c_clear_da8c8 26 = .ok (.istore_n 3, 1) := by decide +kernel
theorem dJx4a65c_clear_da8c8_27 : decode cJx4a65c_clear_da8c8 27 = .ok (.iload_n 3, 1) := by decide +kernel
theorem dJx4a65c_clear_da8c8_28 : decode cJx4a65c_clear_da8c8 28 = .ok (.iload_n 2, 1) := by decide +kernel
theorem dJx4a65c_clear_da8c8_29 : decode cJx4a65c_clear_da8c8 29 = .ok (.if_icmp .ge 13, 3) := by decide +kernel
theorem dJx4a65c_clear_da8c8_42 : decode cJx4a65c_clear_da8c8 42 = .ok (.return_, 1) := by decide +kernel
theorem dJx4a65c_init_da8c8_0 : decode cJx4a65c_init_da8c8 0 = .ok (.aload_n 0, 1) := by decide +kernel
theorem dJx4a65c_init_da8c8_1 : decode cJx4a65c_init_da8c8 1 = .ok (.invokespecial 1, 3) := by decide +kernel
theorem dJx4a65c_init_da8c8_4 : decode cJx4a65c_init_da8c8 4 = .ok (.aload_n 0, 1) := by decide +kernel
theorem dJx4a65c_init_da8c8_5 : decode cJx4a65c_init_da8c8 5 = .ok (.getstatic 39, 3) := by decide +kernel
theorem dJx4a65c_init_da8c8_8 : decode cJx4a65c_init_da8c8 8 = .ok (.putfield 9, 3) := by decide +kernel
theorem dJx4a65c_init_da8c8_11 : decode cJx4a65c_init_da8c8 11 = .ok (.return_, 1) := by decide +kernel
theorem dJx4a65c_size_8abf5_0 : decode cJx4a65c_size_8abf5 0 = .ok (.aload_n 0, 1) := by decide +kernel
theorem dJx4a65c_size_8abf5_1 : decode cJx4a65c_size_8abf5 1 = .ok (.getfield 48, 3) := by decide +kernel
theorem dJx4a65c_size_8abf5_4 : decode cJx4a65c_size_8abf5 4 = .ok (.ireturn, 1) := by decide +kernel
theorem dJxa1e45_init_da8c8_0 : decode cJxa1e45_init_da8c8 0 = .ok (.aload_n 0, 1) := by decide +kernel
theorem dJxa1e45_init_da8c8_1 : decode cJxa1e45_init_da8c8 1 = .ok (.invokespecial 1, 3) := by decide +kernel
theorem dJxa1e45_init_da8c8_4 : decode cJxa1e45_init_da8c8 4 = .ok (.return_, 1) := by decide +kernel
theorem dJxc12de_init_da8c8_0 : decode cJxc12de_init_da8c8 0 = .ok (.aload_n 0, 1) := by decide +kernel
theorem dJxc12de_init_da8c8_1 : decode cJxc12de_init_da8c8 1 = .ok (.invokespecial 1, 3) := by decide +kernel
theorem dJxc12de_init_da8c8_4 : decode cJxc12de_init_da8c8 4 = .ok (.aload_n 0, 1) := by decide +kernel
theorem dJxc12de_init_da8c8_5 : decode cJxc12de_init_da8c8 5 = .ok (.iconst 0, 1) := by decide +kernel
theorem dJxc12de_init_da8c8_6 : decode cJxc12de_init_da8c8 6 = .ok (.putfield 7, 3) := by decide +kernel
theorem dJxc12de_init_da8c8_9 : decode cJxc12de_init_da8c8 9 = .ok (.return_, 1) := by decide +kernel
theorem dX0_init_0 : decode cX0_init 0 = .ok (.aload_n 0, 1) := by decide +kernel
theorem dX0_init_1 : decode cX0_init 1 = .ok (.invokespecial 3, 3) := by decide +kernel
theorem dX0_init_4 : decode cX0_init 4 = .ok (.aload_n 0, 1) := by decide +kernel
theorem dX0_init_5 : decode cX0_init 5 = .ok (.aconst_null, 1) := by decide +kernel
theorem dX0_init_6 : decode cX0_init 6 = .ok (.putfield 9, 3) := by decide +kernel
theorem dX0_init_9 : decode cX0_init 9 = .ok (.aload_n 0, 1) := by decide +kernel
theorem dX0_init_10 : decode cX0_init 10 = .ok (.aconst_null, 1) := by decide +kernel
theorem dX0_init_11 : decode cX0_init 11 = .ok (.putfield 15, 3) := by decide +kernel
theorem dX0_init_14 : decode cX0_init 14 = .ok (.aload_n 0, 1) := by decide +kernel
theorem dX0_init_15 : decode cX0_init 15 = .ok (.iconst 0, 1) := by decide +kernel
theorem dX0_init_16 : decode cX0_init 16 = .ok (.putfield 19, 3) := by decide +kernel
theorem dX0_init_19 : decode cX0_init 19 = .ok (.aload_n 0, 1) := by decide +kernel
theorem dX0_init_20 : decode cX0_init 20 = .ok (.iconst 0, 1) := by decide +kernel
theorem dX0_init_21 : decode cX0_init 21 = .ok (.putfield 23, 3) := by decide +kernel
theorem dX0_init_24 : decode cX0_init 24 = .ok (.aload_n 0, 1) := by decide +kernel
theorem dX0_init_25 : decode cX0_init 25 = .ok (.iconst 0, 1) := by decide +kernel
theorem dX0_init_26 : decode cX0_init 26 = .ok (.putfield 27, 3) := by decide +kernel
theorem dX0_init_29 : decode cX0_init 29 = .ok (.aload_n 0, 1) := by decide +kernel
theorem dX0_init_30 : decode cX0_init 30 = .ok (.aload_n 1, 1) := by decide +kernel
theorem dX0_init_31 : decode cX0_init 31 = .ok (.putfield 30, 3) := by decide +kernel
theorem dX0_init_34 : decode cX0_init 34 = .ok (.return_, 1) := by decide +kernel
theorem dX1_init_0 : decode cX1_init 0 = .ok (.aload_n 0, 1) := by decide +kernel
theorem dX1_init_1 : decode cX1_init 1 = .ok (.invokespecial 3, 3) := by decide +kernel
theorem dX1_init_4 : decode cX1_init 4 = .ok (.aload_n 0, 1) := by decide +kernel
theorem dX1_init_5 : decode cX1_init 5 = .ok (.bipush 40, 2) := by decide +kernel
theorem dX1_init_7 : decode cX1_init 7 = .ok (.newarray .int, 2) := by decide +kernel
theorem dX1_init_9 : decode cX1_init 9 = .ok (.putfield 11, 3) := by decide +kernel
theorem dX1_init_12 : decode cX1_init 12 = .ok (.aload_n 0, 1) := by decide +kernel
theorem dX1_init_13 : decode cX1_init 13 = .ok (.bipush 40, 2) := by decide +kernel
theorem dX1_init_15 : decode cX1_init 15 = .ok (.newarray .boolean, 2) := by decide +kernel
theorem dX1_init_17 : decode cX1_init 17 = .ok (.putfield 15, 3) := by decide +kernel
theorem dX1_init_20 : decode cX1_init 20 = .ok (.aload_n 0, 1) := by decide +kernel
theorem dX1_init_21 : decode cX1_init 21 = .ok (.iconst 0, 1) := by decide +kernel
theorem dX1_init_22 : decode cX1_init 22 = .ok (.putfield 19, 3) := by decide +kernel
theorem dX1_init_25 : decode cX1_init 25 = .ok (.aload_n 0, 1) := by decide +kernel
theorem dX1_init_26 : decode cX1_init 26 = .ok (.aconst_null, 1) := by decide +kernel
theorem dX1_init_27 : decode cX1_init 27 = .ok (.putfield 23, 3) := by decide +kernel
theorem dX1_init_30 : decode cX1_init 30 = .ok (.return_, 1) := by decide +kernel
theorem dX2_init_0 : decode cX2_init 0 = .ok (.aload_n 0, 1) := by decide +kernel
theorem dX2_init_1 : decode cX2_init 1 = .ok (.invokespecial 3, 3) := by decide +kernel
theorem dX2_init_4 : decode cX2_init 4 = .ok (.aload_n 0, 1) := by decide +kernel
theorem dX2_init_5 : decode cX2_init 5 = .ok (.aconst_null, 1) := by decide +kernel
theorem dX2_init_6 : decode cX2_init 6 = .ok (.putfield 9, 3) := by decide +kernel
theorem dX2_init_9 : decode cX2_init 9 = .ok (.aload_n 0, 1) := by decide +kernel
theorem dX2_init_10 : decode cX2_init 10 = .ok (.iconst (-1), 1) := by decide +kernel
theorem dX2_init_11 : decode cX2_init 11 = .ok (.putfield 15, 3) := by decide +kernel
theorem dX2_init_14 : decode cX2_init 14 = .ok (.aload_n 0, 1) := by decide +kernel
theorem dX2_init_15 : decode cX2_init 15 = .ok (.bipush 64, 2) := by decide +kernel
theorem dX2_init_17 : decode cX2_init 17 = .ok (.newarray .int, 2) := by decide +kernel
theorem dX2_init_19 : decode cX2_init 19 = .ok (.putfield 19, 3) := by decide +kernel
theorem dX2_init_22 : decode cX2_init 22 = .ok (.aload_n 0, 1) := by decide +kernel
theorem dX2_init_23 : decode cX2_init 23 = .ok (.iconst 3, 1) := by decide +kernel
theorem dX2_init_24 : decode cX2_init 24 = .ok (.newarray .int, 2) := by decide +kernel
theorem dX2_init_26 : decode cX2_init 26 = .ok (.putfield 23, 3) := by decide +kernel
theorem dX2_init_29 : decode cX2_init 29 = .ok (.aload_n 0, 1) := by decide +kernel
theorem dX2_init_30 : decode cX2_init 30 = .ok (.bipush 9, 2) := by decide +kernel
theorem dX2_init_32 : decode cX2_init 32 = .ok (.newarray .int, 2) := by decide +kernel
theorem dX2_init_34 : decode cX2_init 34 = .ok (.putfield 26, 3) := by decide +kernel
theorem dX2_init_37 : decode cX2_init 37 = .ok (.aload_n 0, 1) := by decide +kernel
theorem dX2_init_38 : decode cX2_init 38 = .ok (.bipush 9, 2) := by decide +kernel
theorem dX2_init_40 : decode cX2_init 40 = .ok (.newarray .int, 2) := by decide +kernel
theorem dX2_init_42 : decode cX2_init 42 = .ok (.putfield 29, 3) := by decide +kernel
theorem dX2_init_45 : decode cX2_init 45 = .ok (.aload_n 0, 1) := by decide +kernel
theorem dX2_init_46 : decode cX2_init 46 = .ok (.bipush 9, 2) := by decide +kernel
theorem dX2_init_48 : decode cX2_init 48 = .ok (.newarray .int, 2) := by decide +kernel
theorem dX2_init_50 : decode cX2_init 50 = .ok (.putfield 32, 3) := by decide +kernel
theorem dX2_init_53 : decode cX2_init 53 = .ok (.aload_n 0, 1) := by decide +kernel
theorem dX2_init_54 : decode cX2_init 54 = .ok (.bipush 9, 2) := by decide +kernel
theorem dX2_init_56 : decode cX2_init 56 = .ok (.newarray .int, 2) := by decide +kernel
theorem dX2_init_58 : decode cX2_init 58 = .ok (.putfield 35, 3) := by decide +kernel
theorem dX2_init_61 : decode cX2_init 61 = .ok (.aload_n 0, 1) := by decide +kernel
theorem dX2_init_62 : decode cX2_init 62 = .ok (.iconst 0, 1) := by decide +kernel
theorem dX2_init_63 : decode cX2_init 63 = .ok (.putfield 38, 3) := by decide +kernel
theorem dX2_init_66 : decode cX2_init 66 = .ok (.return_, 1) := by decide +kernel
theorem dX7_init_0 : decode cX7_init 0 = .ok (.aload_n 0, 1) := by decide +kernel
theorem dX7_init_1 : decode cX7_init 1 = .ok (.invokespecial 3, 3) := by decide +kernel
theorem dX7_init_4 : decode cX7_init 4 = .ok (.aload_n 0, 1) := by decide +kernel
theorem dX7_init_5 : decode cX7_init 5 = .ok (.bipush 8, 2) := by decide +kernel
theorem dX7_init_7 : decode cX7_init 7 = .ok (.anewarray 9, 3) := by decide +kernel
theorem dX7_init_10 : decode cX7_init 10 = .ok (.putfield 11, 3) := by decide +kernel
theorem dX7_init_13 : decode cX7_init 13 = .ok (.aload_n 0, 1) := by decide +kernel
theorem dX7_init_14 : decode cX7_init 14 = .ok (.new 17, 3) := by decide +kernel
theorem dX7_init_17 : decode cX7_init 17 = .ok (.dup, 1) := by decide +kernel
theorem dX7_init_18 : decode cX7_init 18 = .ok (.invokespecial 19, 3) := by decide +kernel
theorem dX7_init_21 : decode cX7_init 21 = .ok (.putfield 20, 3) := by decide +kernel
theorem dX7_init_24 : decode cX7_init 24 = .ok (.aload_n 0, 1) := by decide +kernel
theorem dX7_init_25 : decode cX7_init 25 = .ok (.sipush 4288, 3) := by decide +kernel
theorem dX7_init_28 : decode cX7_init 28 = .ok (.newarray .int, 2) := by decide +kernel
theorem dX7_init_30 : decode cX7_init 30 = .ok (.putfield 24, 3) := by decide +kernel
theorem dX7_init_33 : decode cX7_init 33 = .ok (.aload_n 0, 1) := by decide +kernel
theorem dX7_init_34 : decode cX7_init 34 = .ok (.sipush 2064, 3) := by decide +kernel
theorem dX7_init_37 : decode cX7_init 37 = .ok (.newarray .int, 2) := by decide +kernel
theorem dX7_init_39 : decode cX7_init 39 = .ok (.putfield 28, 3) := by decide +kernel
theorem dX7_init_42 : decode cX7_init 42 = .ok (.return_, 1) := by decide +kernel
/-- What the start gives and what stays: the lists' empty row, compact strings, the constant KEYS, what throws read. -/
def Gv (tE tK tV s1 s2 s3 : Nat) (A : Nat → Prop) (U : State) (H : Heap) : Prop :=
  va_Z "java/util/ArrayList" "DEFAULTCAPACITY_EMPTY_ELEMENTDATA" "[Ljava/lang/Object;" (.ref tE) A U H ∧ va_Z "java/lang/String" "COMPACT_STRINGS" "Z" (.int 1) A U H ∧
  vk_R "MakerStarts$Tokens" 25 "type field const static block maker fails this super act mark throw try catch finally if else new return " tK U ∧ va_O "java/lang/String" tK A U H ∧ va_OF "java/lang/String" "coder" "B" (.int 0) tK A U H ∧ va_OF "java/lang/String" "value" "[B" (.ref tV) tK A U H ∧ (∃ byt : Nat → Int32, va_T .byte tV 105 (fun j => .int (byt j)) A U H) ∧
  vx_Zq Bundle.tN "UNASSIGNED_STACK" Bundle.steD A U H ∧ vx_Zq Bundle.tN "SUPPRESSED_SENTINEL" Bundle.listD A U H ∧
  vk_R "MakerStarts" 129 "no such mark" s1 U ∧ vk_R "MakerStarts" 144 "there is no thing" s2 U ∧ vk_R "MakerStarts" 171 "no such static or constant" s3 U ∧ va_AO "MakerStarts$Type" U ∧ va_AO "MakerStarts$Frame" U
theorem Gv.aoType {tE tK tV s1 s2 s3 : Nat} {A : Nat → Prop} {U : State} {H : Heap} (h : Gv tE tK tV s1 s2 s3 A U H) : va_AO "MakerStarts$Type" U := by
  obtain ⟨h1, h2, h3, h4, h5, h6, h7, h8, h9, ha, hb, hc, hd, he⟩ := h
  exact hd
theorem Gv.aoFrame {tE tK tV s1 s2 s3 : Nat} {A : Nat → Prop} {U : State} {H : Heap} (h : Gv tE tK tV s1 s2 s3 A U H) : va_AO "MakerStarts$Frame" U := by
  obtain ⟨h1, h2, h3, h4, h5, h6, h7, h8, h9, ha, hb, hc, hd, he⟩ := h
  exact he
theorem Gv.warm {tE tK tV s1 s2 s3 : Nat} {A : Nat → Prop} {u U : State} {H : Heap} (hW : u.WarmedH U.vm) (h : Gv tE tK tV s1 s2 s3 A u H) : Gv tE tK tV s1 s2 s3 A U H := by
  obtain ⟨h1, h2, h3, h4, h5, h6, ⟨byt, h7⟩, h8, h9, ha, hb, hc, hd, he⟩ := h
  exact ⟨va_Z.moved hW.alike h1, va_Z.moved hW.alike h2, vk_R.warm hW h3, va_O.moved hW.alike h4, va_OF.moved hW.alike h5, va_OF.moved hW.alike h6, ⟨byt, va_T.moved hW.alike h7⟩, vx_Zq.moved hW.alike h8, vx_Zq.moved hW.alike h9, vk_R.warm hW ha, vk_R.warm hW hb, vk_R.warm hW hc, va_AO.moved hW.alike hd, va_AO.moved hW.alike he⟩
theorem Gv.kept {tE tK tV s1 s2 s3 : Nat} {A : Nat → Prop} {U : State} {H H1 : Heap} (h : Gv tE tK tV s1 s2 s3 A U H) (hq : ∀ a : Nat, a < H.size → ¬ A a → H1[a]? = H[a]?) : Gv tE tK tV s1 s2 s3 A U H1 := by
  obtain ⟨h1, h2, h3, h4, h5, h6, ⟨byt, h7⟩, h8, h9, ha, hb, hc, hd, he⟩ := h
  exact ⟨h1.kept hq, h2.kept hq, h3, h4.kept hq, h5.kept hq, h6.kept hq, ⟨byt, h7.kept hq⟩, h8.kept hq, h9.kept hq, ha, hb, hc, hd, he⟩
theorem Gv.narrow {tE tK tV s1 s2 s3 : Nat} {A B : Nat → Prop} {U : State} {H : Heap} (h : Gv tE tK tV s1 s2 s3 A U H) (hAB : ∀ q, B q → A q) : Gv tE tK tV s1 s2 s3 B U H := by
  obtain ⟨h1, h2, h3, h4, h5, h6, ⟨byt, h7⟩, h8, h9, ha, hb, hc, hd, he⟩ := h
  exact ⟨h1.narrow hAB, h2.narrow hAB, h3, h4.narrow hAB, h5.narrow hAB, h6.narrow hAB, ⟨byt, h7.narrow hAB⟩, h8.narrow hAB, h9.narrow hAB, ha, hb, hc, hd, he⟩
theorem Gv.calling {tE tK tV s1 s2 s3 : Nat} {A : Nat → Prop} {U : State} {g : JFrame} {mk : MethodId} {a : Array Value} (h : Gv tE tK tV s1 s2 s3 A U U.heap) : Gv tE tK tV s1 s2 s3 A (U.calling g mk a) (U.calling g mk a).heap := by
  obtain ⟨h1, h2, h3, h4, h5, h6, ⟨byt, h7⟩, h8, h9, ha, hb, hc, hd, he⟩ := h
  have r : U.vm.Alike (U.calling g mk a).vm := Vm.Alike.refl U.vm
  exact ⟨va_Z.moved r h1, va_Z.moved r h2, vk_R.same rfl h3, va_O.moved r h4, va_OF.moved r h5, va_OF.moved r h6, ⟨byt, va_T.moved r h7⟩, vx_Zq.moved r h8, vx_Zq.moved r h9, vk_R.same rfl ha, vk_R.same rfl hb, vk_R.same rfl hc, va_AO.moved r hd, va_AO.moved r he⟩
/-- at a call: from here to the callee -/
theorem Gv.call {tE tK tV s1 s2 s3 : Nat} {A B : Nat → Prop} {s U : State} {H : Heap} {locs : List Loc} (h : Gv tE tK tV s1 s2 s3 A s s.heap) (hS : va_S A s.heap H locs) (hAB : ∀ q, B q → A q) (hU : U.heap = H) (hW : s.WarmedH U.vm) : Gv tE tK tV s1 s2 s3 B U U.heap := by
  rw [hU]
  exact ((h.kept hS.2.1).warm hW).narrow hAB

set_option maxHeartbeats 4000000 in
set_option maxRecDepth 100000 in
theorem j_ac_init (l : Launch) (D : va_G) (cy : Nat → ClassId) (sz : Nat) (h0 : Nat) : Met l yJxa1e45_init_da8c8 (.code yJxa1e45_init_da8c8 cJxa1e45_init_da8c8 1 none :: TB) ({ frames := 1, cells := 0, slots := 0, locals := 12 }) (va_Pc [.ref h0] (fun U => U.heap.size = sz ∧ va_P D vwCl [(h0, .inr (0, [.int 0, .null, .int 0]))] U.heap ∧ va_K D vwCl (TY cy) U ∧ va_D (fun _ => True) [(h0, .inr (0, [.int 0, .null, .int 0]))])) (va_Qv (fun (u : Unit) => True) (fun (u : Unit) t => va_P D vwCl [(h0, .inr (0, [.int 0, .null, .int 0]))] t.heap ∧ va_D (va_A [(h0, .inr (0, [.int 0, .null, .int 0]))] sz) [(h0, .inr (0, [.int 0, .null, .int 0]))]) (va_A [(h0, .inr (0, [.int 0, .null, .int 0]))] sz)) 0 0 (va_A [(h0, .inr (0, [.int 0, .null, .int 0]))] sz) := by
  refine Met.ofW (cc := cJxa1e45_init_da8c8) (maxL := 1) (ret := none) (by decide) rfl ?_
  intro p e s m args below meth c s₁ B hml hv
  obtain ⟨rfl, hsz, hP, hK, hD0⟩ := hv
  have hx := B.exec
  have hb := B.bytes
  have hr := B.returns
  have hts := atoms_spec (ws := .code yJxa1e45_init_da8c8 cJxa1e45_init_da8c8 1 none :: TB) B.pre
  have hT : ∀ w ∈ TB, w.before _ s = true := fun w h => hts w (List.mem_cons_of_mem _ h)
  have hown : s.vm.findClass "java/util/AbstractCollection" = some m.cls := findClass_of_methodNamed B.named
  have hlocks := B.notSynchronized
  have hin : meth.name = "<init>" := (name_of_methodNamed B.named B.method).1
  subst hsz
  have hD := hD0.self (sz := s.heap.size)
  generalize hAe : va_A [(h0, .inr (0, [.int 0, .null, .int 0]))] s.heap.size = A at hD  ⊢
  have hA : ∀ q : Nat, s.heap.size ≤ q → A q := fun q h => by rw [← hAe]; exact Or.inr h
  have hS : va_S A s.heap s.heap [] := va_S.rf
  have hP : va_P D vwCl [(h0, .inr (0, [.int 0, .null, .int 0]))] s.heap := hP
  have hl := lv_entry ([.ref h0]) (n := 1) (Nat.le_of_ble_eq_true rfl)
  rw [lg_entry_eq]
  generalize (lg_sl ([.ref h0]) ++ List.replicate (1 - (lg_sl ([.ref h0])).length) Slot.unset).toArray = ls at hl ⊢
  have hl : lv_has ls 1 [(0, .ref h0)] := hl
  refine lv_aload_n hx hb dJxa1e45_init_da8c8_0 rfl (lv_at hl 0 rfl) ?_
  refine W.objInit hx hb hown (hT _ t_196) (hT _ t_175) (hT _ t_176) rfl (by rw [hml]; exact hl.1) rfl dJxa1e45_init_da8c8_1 (Nat.le_of_ble_eq_true rfl) (Nat.le_of_ble_eq_true rfl) ?_
  refine W.eq (g2 := F0 m 4 ls []) rfl ?_
  have hP9 := hP.sub (ws' := [(h0, .inr (0, [.int 0, .null, .int 0]))]) [0] rfl
  have hD9 := hD.sub (ws' := [(h0, .inr (0, [.int 0, .null, .int 0]))]) [0] (by decide) rfl
  refine W.widen (k := 0) (n := 0) (Nat.le_of_ble_eq_true rfl) (Nat.le_of_ble_eq_true rfl) ?_
  exact W.vret hx hb hr (fun t ht hW => ⟨⟨(), rfl, trivial, by rw [ht]; exact hP9, hD9⟩, hS.F ht⟩) hS.2.2 dJxa1e45_init_da8c8_4

set_option maxHeartbeats 4000000 in
set_option maxRecDepth 100000 in
theorem j_ab_init (l : Launch) (D : va_G) (cy : Nat → ClassId) (sz : Nat) (h0 : Nat) : Met l yJxc12de_init_da8c8 (.code yJxc12de_init_da8c8 cJxc12de_init_da8c8 1 none :: TB) ({ frames := 2, cells := 0, slots := 0, locals := 32 }) (va_Pc [.ref h0] (fun U => U.heap.size = sz ∧ va_P D vwCl [(h0, .inr (0, [.int 0, .null, .int 0]))] U.heap ∧ va_K D vwCl (TY cy) U ∧ va_D (fun _ => True) [(h0, .inr (0, [.int 0, .null, .int 0]))])) (va_Qv (fun (u : Unit) => True) (fun (u : Unit) t => va_P D vwCl [(h0, .inr (0, [.int 0, .null, .int 0]))] t.heap ∧ va_D (va_A [(h0, .inr (0, [.int 0, .null, .int 0]))] sz) [(h0, .inr (0, [.int 0, .null, .int 0]))]) (va_A [(h0, .inr (0, [.int 0, .null, .int 0]))] sz)) 0 0 (va_A [(h0, .inr (0, [.int 0, .null, .int 0]))] sz) := by
  refine Met.ofW (cc := cJxc12de_init_da8c8) (maxL := 1) (ret := none) (by decide) rfl ?_
  intro p e s m args below meth c s₁ B hml hv
  obtain ⟨rfl, hsz, hP, hK, hD0⟩ := hv
  have hx := B.exec
  have hb := B.bytes
  have hr := B.returns
  have hts := atoms_spec (ws := .code yJxc12de_init_da8c8 cJxc12de_init_da8c8 1 none :: TB) B.pre
  have hT : ∀ w ∈ TB, w.before _ s = true := fun w h => hts w (List.mem_cons_of_mem _ h)
  have hown : s.vm.findClass "java/util/AbstractList" = some m.cls := findClass_of_methodNamed B.named
  have hlocks := B.notSynchronized
  have hin : meth.name = "<init>" := (name_of_methodNamed B.named B.method).1
  subst hsz
  have hD := hD0.self (sz := s.heap.size)
  generalize hAe : va_A [(h0, .inr (0, [.int 0, .null, .int 0]))] s.heap.size = A at hD  ⊢
  have hA : ∀ q : Nat, s.heap.size ≤ q → A q := fun q h => by rw [← hAe]; exact Or.inr h
  have hS : va_S A s.heap s.heap [] := va_S.rf
  have hP : va_P D vwCl [(h0, .inr (0, [.int 0, .null, .int 0]))] s.heap := hP
  have hl := lv_entry ([.ref h0]) (n := 1) (Nat.le_of_ble_eq_true rfl)
  rw [lg_entry_eq]
  generalize (lg_sl ([.ref h0]) ++ List.replicate (1 - (lg_sl ([.ref h0])).length) Slot.unset).toArray = ls at hl ⊢
  have hl : lv_has ls 1 [(0, .ref h0)] := hl
  refine lv_aload_n hx hb dJxc12de_init_da8c8_0 rfl (lv_at hl 0 rfl) ?_
  have hPc := hP.sub (ws' := [(h0, .inr (0, [.int 0, .null, .int 0]))]) [0] rfl
  have hDc := hD.sub (ws' := [(h0, .inr (0, [.int 0, .null, .int 0]))]) [0] (by decide) rfl
  have hFc := va_free (wc := [(h0, .inr (0, [.int 0, .null, .int 0]))]) hD hS hA [0] rfl
  refine va_callv (va_runI (As := []) (rest := []) ⟨hx, hb, hml, hown, hT⟩ (j_ac_init l D cy s.heap.size h0) (cwI 0 hT (gTB t_195) rfl rfl rfl (hT _ t_140) (hT _ t_193) (hT _ t_194) rfl (by decide +kernel) ⟨Nat.le_of_ble_eq_true rfl, Nat.le_of_ble_eq_true rfl⟩) ⟨fun a U g mk q => by obtain ⟨q0, q1, qP, qK, qD⟩ := q; exact ⟨q0, q1, qP, va_K.moved (u := U) (U := U.calling g mk a) (Vm.Alike.refl U.vm) qK, qD⟩, fun U hU hW => ⟨rfl, by rw [hU], by rw [hU]; exact hPc, va_K.moved hW.alike hK, hDc.weaken (fun _ _ _ _ => trivial)⟩⟩ rfl rfl hl.1 rfl (lv_room (Nat.le_of_ble_eq_true rfl)) dJxc12de_init_da8c8_1 ⟨Nat.le_of_ble_eq_true rfl, Nat.le_of_ble_eq_true rfl⟩) hS (fun q _ h => hFc q h) hFc (fun  u t H1 locs ht hvm w1 hB hz1 hk1 hS => ?_)
  obtain ⟨hP1, hD1⟩ := hB
  rw [ht] at hP1
  obtain ⟨hP, hD⟩ := va_join (wr := []) (w1 := [(h0, .inr (0, [.int 0, .null, .int 0]))]) hP hD [0] [] rfl rfl (by decide) (by decide) hk1 hFc hP1 hD1
  generalize H1 = H at hP hS ⊢
  have hP : va_P D vwCl [(h0, .inr (0, [.int 0, .null, .int 0]))] H := hP
  have hD : va_D A [(h0, .inr (0, [.int 0, .null, .int 0]))] := hD
  refine lv_aload_n hx hb dJxc12de_init_da8c8_4 rfl (lv_at hl 0 rfl) ?_
  refine lv_iconst (v := 0) hx hb dJxc12de_init_da8c8_5 (by decide) ?_
  refine va_put (D := D) (ci := 0) (v := .int 0) (ty := .int) (C := RJx4a65c) (T := TJx4a65c) (N := 3) hx hb hT i_TJx4a65c tyJx4a65c tyJx4a65c_ok nmJx4a65c hown hK hP hD hS 0 rfl rfl 0 (by decide) (hT _ t_201) (fun _ h9 => h9) rfl (by decide +kernel) rfl rfl (Nat.le_of_ble_eq_true rfl) dJxc12de_init_da8c8_6 (fun H locs hP hD hS => ?_)
  have hP : va_P D vwCl [(h0, .inr (0, [.int 0, .null, .int 0]))] H := hP
  have hD : va_D A [(h0, .inr (0, [.int 0, .null, .int 0]))] := hD
  have hP9 := hP.sub (ws' := [(h0, .inr (0, [.int 0, .null, .int 0]))]) [0] rfl
  have hD9 := hD.sub (ws' := [(h0, .inr (0, [.int 0, .null, .int 0]))]) [0] (by decide) rfl
  refine W.widen (k := 0) (n := 0) (Nat.le_of_ble_eq_true rfl) (Nat.le_of_ble_eq_true rfl) ?_
  exact W.vret hx hb hr (fun t ht hW => ⟨⟨(), rfl, trivial, by rw [ht]; exact hP9, hD9⟩, hS.F ht⟩) hS.2.2 dJxc12de_init_da8c8_9

set_option maxHeartbeats 4000000 in
set_option maxRecDepth 100000 in
theorem j_al_init (l : Launch) (D : va_G) (cy : Nat → ClassId) (sz : Nat) (h0 : Nat) (tE : Nat) (tK : Nat) (tV : Nat) (s1 : Nat) (s2 : Nat) (s3 : Nat) : Met l yJx4a65c_init_da8c8 (.code yJx4a65c_init_da8c8 cJx4a65c_init_da8c8 1 none :: TB) ({ frames := 3, cells := 0, slots := 0, locals := 52 }) (va_Pc [.ref h0] (fun U => U.heap.size = sz ∧ va_P D vwCl [(h0, .inr (0, [.int 0, .null, .int 0]))] U.heap ∧ va_K D vwCl (TY cy) U ∧ va_D (fun _ => True) [(h0, .inr (0, [.int 0, .null, .int 0]))] ∧ Gv tE tK tV s1 s2 s3 (va_A [(h0, .inr (0, [.int 0, .null, .int 0]))] sz) U U.heap)) (va_Qv (fun (u : Unit) => True) (fun (u : Unit) t => va_P D vwCl [(h0, .inr (0, [.int 0, .ref tE, .int 0]))] t.heap ∧ va_D (va_A [(h0, .inr (0, [.int 0, .null, .int 0]))] sz) [(h0, .inr (0, [.int 0, .ref tE, .int 0]))]) (va_A [(h0, .inr (0, [.int 0, .null, .int 0]))] sz)) 0 0 (va_A [(h0, .inr (0, [.int 0, .null, .int 0]))] sz) := by
  refine Met.ofW (cc := cJx4a65c_init_da8c8) (maxL := 1) (ret := none) (by decide) rfl ?_
  intro p e s m args below meth c s₁ B hml hv
  obtain ⟨rfl, hsz, hP, hK, hD0, hG⟩ := hv
  have hx := B.exec
  have hb := B.bytes
  have hr := B.returns
  have hts := atoms_spec (ws := .code yJx4a65c_init_da8c8 cJx4a65c_init_da8c8 1 none :: TB) B.pre
  have hT : ∀ w ∈ TB, w.before _ s = true := fun w h => hts w (List.mem_cons_of_mem _ h)
  have hown : s.vm.findClass "java/util/ArrayList" = some m.cls := findClass_of_methodNamed B.named
  have hlocks := B.notSynchronized
  have hin : meth.name = "<init>" := (name_of_methodNamed B.named B.method).1
  subst hsz
  have hD := hD0.self (sz := s.heap.size)
  generalize hAe : va_A [(h0, .inr (0, [.int 0, .null, .int 0]))] s.heap.size = A at hD hG ⊢
  have hA : ∀ q : Nat, s.heap.size ≤ q → A q := fun q h => by rw [← hAe]; exact Or.inr h
  have hS : va_S A s.heap s.heap [] := va_S.rf
  have hP : va_P D vwCl [(h0, .inr (0, [.int 0, .null, .int 0]))] s.heap := hP
  have hl := lv_entry ([.ref h0]) (n := 1) (Nat.le_of_ble_eq_true rfl)
  rw [lg_entry_eq]
  generalize (lg_sl ([.ref h0]) ++ List.replicate (1 - (lg_sl ([.ref h0])).length) Slot.unset).toArray = ls at hl ⊢
  have hl : lv_has ls 1 [(0, .ref h0)] := hl
  refine lv_aload_n hx hb dJx4a65c_init_da8c8_0 rfl (lv_at hl 0 rfl) ?_
  have hPc := hP.sub (ws' := [(h0, .inr (0, [.int 0, .null, .int 0]))]) [0] rfl
  have hDc := hD.sub (ws' := [(h0, .inr (0, [.int 0, .null, .int 0]))]) [0] (by decide) rfl
  have hFc := va_free (wc := [(h0, .inr (0, [.int 0, .null, .int 0]))]) hD hS hA [0] rfl
  refine va_callv (va_runI (As := []) (rest := []) ⟨hx, hb, hml, hown, hT⟩ (j_ab_init l D cy s.heap.size h0) (cwI 0 hT (gTB t_192) rfl rfl rfl (hT _ t_141) (hT _ t_190) (hT _ t_191) rfl (by decide +kernel) ⟨Nat.le_of_ble_eq_true rfl, Nat.le_of_ble_eq_true rfl⟩) ⟨fun a U g mk q => by obtain ⟨q0, q1, qP, qK, qD⟩ := q; exact ⟨q0, q1, qP, va_K.moved (u := U) (U := U.calling g mk a) (Vm.Alike.refl U.vm) qK, qD⟩, fun U hU hW => ⟨rfl, by rw [hU], by rw [hU]; exact hPc, va_K.moved hW.alike hK, hDc.weaken (fun _ _ _ _ => trivial)⟩⟩ rfl rfl hl.1 rfl (lv_room (Nat.le_of_ble_eq_true rfl)) dJx4a65c_init_da8c8_1 ⟨Nat.le_of_ble_eq_true rfl, Nat.le_of_ble_eq_true rfl⟩) hS (fun q _ h => hFc q h) hFc (fun  u t H1 locs ht hvm w1 hB hz1 hk1 hS => ?_)
  obtain ⟨hP1, hD1⟩ := hB
  rw [ht] at hP1
  obtain ⟨hP, hD⟩ := va_join (wr := []) (w1 := [(h0, .inr (0, [.int 0, .null, .int 0]))]) hP hD [0] [] rfl rfl (by decide) (by decide) hk1 hFc hP1 hD1
  generalize H1 = H at hP hS ⊢
  have hP : va_P D vwCl [(h0, .inr (0, [.int 0, .null, .int 0]))] H := hP
  have hD : va_D A [(h0, .inr (0, [.int 0, .null, .int 0]))] := hD
  refine lv_aload_n hx hb dJx4a65c_init_da8c8_4 rfl (lv_at hl 0 rfl) ?_
  refine va_gets hx hb hG.1 hS hown (hT _ t_197) (fun _ h9 => h9) dJx4a65c_init_da8c8_5 ?_
  refine va_put (D := D) (ci := 0) (v := .ref tE) (ty := .array (.object "java/lang/Object")) (C := RJx4a65c) (T := TJx4a65c) (N := 3) hx hb hT i_TJx4a65c tyJx4a65c tyJx4a65c_ok nmJx4a65c hown hK hP hD hS 0 rfl rfl 1 (by decide) (hT _ t_199) (fun _ h9 => h9) rfl (by decide +kernel) rfl rfl (Nat.le_of_ble_eq_true rfl) dJx4a65c_init_da8c8_8 (fun H locs hP hD hS => ?_)
  have hP : va_P D vwCl [(h0, .inr (0, [.int 0, .ref tE, .int 0]))] H := hP
  have hD : va_D A [(h0, .inr (0, [.int 0, .ref tE, .int 0]))] := hD
  have hP9 := hP.sub (ws' := [(h0, .inr (0, [.int 0, .ref tE, .int 0]))]) [0] rfl
  have hD9 := hD.sub (ws' := [(h0, .inr (0, [.int 0, .ref tE, .int 0]))]) [0] (by decide) rfl
  refine W.widen (k := 0) (n := 0) (Nat.le_of_ble_eq_true rfl) (Nat.le_of_ble_eq_true rfl) ?_
  exact W.vret hx hb hr (fun t ht hW => ⟨⟨(), rfl, trivial, by rw [ht]; exact hP9, hD9⟩, hS.F ht⟩) hS.2.2 dJx4a65c_init_da8c8_11

set_option maxHeartbeats 4000000 in
set_option maxRecDepth 100000 in
theorem j_al_clear (l : Launch) (D : va_G) (cy : Nat → ClassId) (sz : Nat) (h0 : Nat) (tE : Nat) : Met l yJx4a65c_clear_da8c8 (.code yJx4a65c_clear_da8c8 cJx4a65c_clear_da8c8 4 none :: TB) ({ frames := 0, cells := 0, slots := 0, locals := 0 }) (va_Pc [.ref h0] (fun U => U.heap.size = sz ∧ va_P D vwCl [(h0, .inr (0, [.int 0, .ref tE, .int 0]))] U.heap ∧ va_K D vwCl (TY cy) U ∧ va_D (fun _ => True) [(h0, .inr (0, [.int 0, .ref tE, .int 0]))])) (va_Qv (fun (u : Unit) => True) (fun (u : Unit) t => va_P D vwCl [(h0, .inr (0, [.int 1, .ref tE, .int 0]))] t.heap ∧ va_D (va_A [(h0, .inr (0, [.int 0, .ref tE, .int 0]))] sz) [(h0, .inr (0, [.int 1, .ref tE, .int 0]))]) (va_A [(h0, .inr (0, [.int 0, .ref tE, .int 0]))] sz)) 0 0 (va_A [(h0, .inr (0, [.int 0, .ref tE, .int 0]))] sz) := by
  refine Met.ofW (cc := cJx4a65c_clear_da8c8) (maxL := 4) (ret := none) (by decide) rfl ?_
  intro p e s m args below meth c s₁ B hml hv
  obtain ⟨rfl, hsz, hP, hK, hD0⟩ := hv
  have hx := B.exec
  have hb := B.bytes
  have hr := B.returns
  have hts := atoms_spec (ws := .code yJx4a65c_clear_da8c8 cJx4a65c_clear_da8c8 4 none :: TB) B.pre
  have hT : ∀ w ∈ TB, w.before _ s = true := fun w h => hts w (List.mem_cons_of_mem _ h)
  have hown : s.vm.findClass "java/util/ArrayList" = some m.cls := findClass_of_methodNamed B.named
  have hlocks := B.notSynchronized
  subst hsz
  have hD := hD0.self (sz := s.heap.size)
  generalize hAe : va_A [(h0, .inr (0, [.int 0, .ref tE, .int 0]))] s.heap.size = A at hD  ⊢
  have hA : ∀ q : Nat, s.heap.size ≤ q → A q := fun q h => by rw [← hAe]; exact Or.inr h
  have hS : va_S A s.heap s.heap [] := va_S.rf
  have hP : va_P D vwCl [(h0, .inr (0, [.int 0, .ref tE, .int 0]))] s.heap := hP
  have hl := lv_entry ([.ref h0]) (n := 4) (Nat.le_of_ble_eq_true rfl)
  rw [lg_entry_eq]
  generalize (lg_sl ([.ref h0]) ++ List.replicate (4 - (lg_sl ([.ref h0])).length) Slot.unset).toArray = ls at hl ⊢
  have hl : lv_has ls 4 [(0, .ref h0)] := hl
  refine lv_aload_n hx hb dJx4a65c_clear_da8c8_0 rfl (lv_at hl 0 rfl) ?_
  refine lv_dup hx hb dJx4a65c_clear_da8c8_1 rfl ?_
  refine va_get (D := D) (ci := 0) (v := .int 0) (C := RJx4a65c) (T := TJx4a65c) (N := 3) hx hb hT i_TJx4a65c hown hK hP 0 rfl rfl 0 (by decide) (hT _ t_202) (fun x9 h9 => u_same (hT _ t_203) x9 h9) rfl dJx4a65c_clear_da8c8_2 ?_
  refine lv_iconst (v := 1) hx hb dJx4a65c_clear_da8c8_5 (by decide) ?_
  refine lv_iadd hx hb dJx4a65c_clear_da8c8_6 ?_
  refine lv_topi (fun z1 e2 => ?_)
  obtain rfl : z1 = 1 := e2.trans (by first | decide | rfl)
  refine va_put (D := D) (ci := 0) (v := .int 1) (ty := .int) (C := RJx4a65c) (T := TJx4a65c) (N := 3) hx hb hT i_TJx4a65c tyJx4a65c tyJx4a65c_ok nmJx4a65c hown hK hP hD hS 0 rfl rfl 0 (by decide) (hT _ t_202) (fun x9 h9 => u_same (hT _ t_203) x9 h9) rfl (by decide +kernel) rfl rfl (Nat.le_of_ble_eq_true rfl) dJx4a65c_clear_da8c8_7 (fun H locs hP hD hS => ?_)
  have hP : va_P D vwCl [(h0, .inr (0, [.int 1, .ref tE, .int 0]))] H := hP
  have hD : va_D A [(h0, .inr (0, [.int 1, .ref tE, .int 0]))] := hD
  refine lv_aload_n hx hb dJx4a65c_clear_da8c8_10 rfl (lv_at hl 0 rfl) ?_
  refine va_get (D := D) (ci := 0) (v := .ref tE) (C := RJx4a65c) (T := TJx4a65c) (N := 3) hx hb hT i_TJx4a65c hown hK hP 0 rfl rfl 1 (by decide) (hT _ t_199) (fun _ h9 => h9) rfl dJx4a65c_clear_da8c8_11 ?_
  refine lv_astore_n (lv' := [(1, .ref tE), (0, .ref h0)]) hx hb dJx4a65c_clear_da8c8_14 rfl hl (by decide) rfl (fun ls hl => ?_)
  refine lv_aload_n hx hb dJx4a65c_clear_da8c8_15 rfl (lv_at hl 1 rfl) ?_
  refine va_get (D := D) (ci := 0) (v := .int 0) (C := RJx4a65c) (T := TJx4a65c) (N := 3) hx hb hT i_TJx4a65c hown hK hP 0 rfl rfl 2 (by decide) (hT _ t_200) (fun _ h9 => h9) rfl dJx4a65c_clear_da8c8_16 ?_
  refine lv_istore_n (lv' := [(2, .int 0), (1, .ref tE), (0, .ref h0)]) hx hb dJx4a65c_clear_da8c8_19 rfl hl (by decide) rfl (fun ls hl => ?_)
  refine lv_aload_n hx hb dJx4a65c_clear_da8c8_20 rfl (lv_at hl 2 rfl) ?_
  refine lv_iconst (v := 0) hx hb dJx4a65c_clear_da8c8_21 (by decide) ?_
  refine lv_dup_x1 hx hb dJx4a65c_clear_da8c8_22 rfl rfl ?_
  refine va_put (D := D) (ci := 0) (v := .int 0) (ty := .int) (C := RJx4a65c) (T := TJx4a65c) (N := 3) hx hb hT i_TJx4a65c tyJx4a65c tyJx4a65c_ok nmJx4a65c hown hK hP hD hS 0 rfl rfl 2 (by decide) (hT _ t_200) (fun _ h9 => h9) rfl (by decide +kernel) rfl rfl (Nat.le_of_ble_eq_true rfl) dJx4a65c_clear_da8c8_23 (fun H locs hP hD hS => ?_)
  have hP : va_P D vwCl [(h0, .inr (0, [.int 1, .ref tE, .int 0]))] H := hP
  have hD : va_D A [(h0, .inr (0, [.int 1, .ref tE, .int 0]))] := hD
  refine lv_istore_n (lv' := [(3, .int 0), (2, .int 0), (1, .ref tE), (0, .ref h0)]) hx hb dJx4a65c_clear_da8c8_26 rfl hl (by decide) rfl (fun ls hl => ?_)
  refine lv_iload_n hx hb dJx4a65c_clear_da8c8_27 rfl (lv_at hl 0 rfl) ?_
  refine lv_iload_n hx hb dJx4a65c_clear_da8c8_28 rfl (lv_at hl 1 rfl) ?_
  refine lv_icmp_ge (tgt := 42) hx hb dJx4a65c_clear_da8c8_29 (by decide) (fun _ => ?_) (fun c9 => absurd (by decide) c9)
  have hP9 := hP.sub (ws' := [(h0, .inr (0, [.int 1, .ref tE, .int 0]))]) [0] rfl
  have hD9 := hD.sub (ws' := [(h0, .inr (0, [.int 1, .ref tE, .int 0]))]) [0] (by decide) rfl
  refine W.widen (k := 0) (n := 0) (Nat.le_of_ble_eq_true rfl) (Nat.le_of_ble_eq_true rfl) ?_
  exact W.vret hx hb hr (fun t ht hW => ⟨⟨(), rfl, trivial, by rw [ht]; exact hP9, hD9⟩, hS.F ht⟩) hS.2.2 dJx4a65c_clear_da8c8_42

set_option maxHeartbeats 4000000 in
set_option maxRecDepth 100000 in
theorem j_al_size (l : Launch) (D : va_G) (cy : Nat → ClassId) (sz : Nat) (h0 : Nat) (tE : Nat) : Met l yJx4a65c_size_8abf5 (.code yJx4a65c_size_8abf5 cJx4a65c_size_8abf5 1 (some .int) :: TB) ({ frames := 0, cells := 0, slots := 0, locals := 0 }) (va_Pc [.ref h0] (fun U => U.heap.size = sz ∧ va_P D vwCl [(h0, .inr (0, [.int 1, .ref tE, .int 0]))] U.heap ∧ va_K D vwCl (TY cy) U ∧ va_D (fun _ => True) [(h0, .inr (0, [.int 1, .ref tE, .int 0]))])) (va_Qi (fun (r : Int32) (u : Unit) => r = 0) (fun (u : Unit) t => va_P D vwCl [(h0, .inr (0, [.int 1, .ref tE, .int 0]))] t.heap ∧ va_D (va_A [(h0, .inr (0, [.int 1, .ref tE, .int 0]))] sz) [(h0, .inr (0, [.int 1, .ref tE, .int 0]))]) (va_A [(h0, .inr (0, [.int 1, .ref tE, .int 0]))] sz)) 0 0 (va_A [(h0, .inr (0, [.int 1, .ref tE, .int 0]))] sz) := by
  refine Met.ofW (cc := cJx4a65c_size_8abf5) (maxL := 1) (ret := (some .int)) (by decide) rfl ?_
  intro p e s m args below meth c s₁ B hml hv
  obtain ⟨rfl, hsz, hP, hK, hD0⟩ := hv
  have hx := B.exec
  have hb := B.bytes
  have hr := B.returns
  have hts := atoms_spec (ws := .code yJx4a65c_size_8abf5 cJx4a65c_size_8abf5 1 (some .int) :: TB) B.pre
  have hT : ∀ w ∈ TB, w.before _ s = true := fun w h => hts w (List.mem_cons_of_mem _ h)
  have hown : s.vm.findClass "java/util/ArrayList" = some m.cls := findClass_of_methodNamed B.named
  have hlocks := B.notSynchronized
  subst hsz
  have hD := hD0.self (sz := s.heap.size)
  generalize hAe : va_A [(h0, .inr (0, [.int 1, .ref tE, .int 0]))] s.heap.size = A at hD  ⊢
  have hA : ∀ q : Nat, s.heap.size ≤ q → A q := fun q h => by rw [← hAe]; exact Or.inr h
  have hS : va_S A s.heap s.heap [] := va_S.rf
  have hP : va_P D vwCl [(h0, .inr (0, [.int 1, .ref tE, .int 0]))] s.heap := hP
  have hl := lv_entry ([.ref h0]) (n := 1) (Nat.le_of_ble_eq_true rfl)
  rw [lg_entry_eq]
  generalize (lg_sl ([.ref h0]) ++ List.replicate (1 - (lg_sl ([.ref h0])).length) Slot.unset).toArray = ls at hl ⊢
  have hl : lv_has ls 1 [(0, .ref h0)] := hl
  refine lv_aload_n hx hb dJx4a65c_size_8abf5_0 rfl (lv_at hl 0 rfl) ?_
  refine va_get (D := D) (ci := 0) (v := .int 0) (C := RJx4a65c) (T := TJx4a65c) (N := 3) hx hb hT i_TJx4a65c hown hK hP 0 rfl rfl 2 (by decide) (hT _ t_200) (fun _ h9 => h9) rfl dJx4a65c_size_8abf5_1 ?_
  have hP9 := hP.sub (ws' := [(h0, .inr (0, [.int 1, .ref tE, .int 0]))]) [0] rfl
  have hD9 := hD.sub (ws' := [(h0, .inr (0, [.int 1, .ref tE, .int 0]))]) [0] (by decide) rfl
  refine W.widen (k := 0) (n := 0) (Nat.le_of_ble_eq_true rfl) (Nat.le_of_ble_eq_true rfl) ?_
  exact W.iret (v := 0) hx hb hr (fun t ht hW => ⟨⟨0, (), rfl, rfl, by rw [ht]; exact hP9, hD9⟩, hS.F ht⟩) hS.2.2 dJx4a65c_size_8abf5_4

set_option maxHeartbeats 4000000 in
set_option maxRecDepth 100000 in
theorem c_Text_init (l : Launch) (D : va_G) (cy : Nat → ClassId) (sz : Nat) (h0 : Nat) (tE : Nat) (tK : Nat) (tV : Nat) (s1 : Nat) (s2 : Nat) (s3 : Nat) : Met l yX7_init (.code yX7_init cX7_init 1 none :: TB) ({ frames := 4, cells := 4, slots := 6363, locals := 72 }) (va_Pc [.ref h0] (fun U => U.heap.size = sz ∧ va_P D vwCl [(h0, .inr (7, [.null, .int 0, .null, .null, .int 0, .null, .int 0, .int 0, .int 0]))] U.heap ∧ va_K D vwCl (TY cy) U ∧ va_D (fun _ => True) [(h0, .inr (7, [.null, .int 0, .null, .null, .int 0, .null, .int 0, .int 0, .int 0]))] ∧ Gv tE tK tV s1 s2 s3 (va_A [(h0, .inr (7, [.null, .int 0, .null, .null, .int 0, .null, .int 0, .int 0, .int 0]))] sz) U U.heap)) (va_Qv (fun (u : Nat × Nat × Nat × Nat) => True) (fun (u : Nat × Nat × Nat × Nat) t => va_P D vwCl [(h0, .inr (7, [.ref u.1, .int 0, .ref u.2.1, .ref u.2.2.1, .int 0, .ref u.2.2.2, .int 0, .int 0, .int 0])), (u.1, .inl (cy 4, 8, .inr (.inr (.inr (.inr (fun _ => none)))))), (u.2.1, .inr (0, [.int 0, .ref tE, .int 0]))] t.heap ∧ va_D (va_A [(h0, .inr (7, [.null, .int 0, .null, .null, .int 0, .null, .int 0, .int 0, .int 0]))] sz) [(h0, .inr (7, [.ref u.1, .int 0, .ref u.2.1, .ref u.2.2.1, .int 0, .ref u.2.2.2, .int 0, .int 0, .int 0])), (u.1, .inl (cy 4, 8, .inr (.inr (.inr (.inr (fun _ => none)))))), (u.2.1, .inr (0, [.int 0, .ref tE, .int 0]))]) (va_A [(h0, .inr (7, [.null, .int 0, .null, .null, .int 0, .null, .int 0, .int 0, .int 0]))] sz)) 4 6363 (va_A [(h0, .inr (7, [.null, .int 0, .null, .null, .int 0, .null, .int 0, .int 0, .int 0]))] sz) := by
  refine Met.ofW (cc := cX7_init) (maxL := 1) (ret := none) (by decide) rfl ?_
  intro p e s m args below meth c s₁ B hml hv
  obtain ⟨rfl, hsz, hP, hK, hD0, hG⟩ := hv
  have hx := B.exec
  have hb := B.bytes
  have hr := B.returns
  have hts := atoms_spec (ws := .code yX7_init cX7_init 1 none :: TB) B.pre
  have hT : ∀ w ∈ TB, w.before _ s = true := fun w h => hts w (List.mem_cons_of_mem _ h)
  have hown : s.vm.findClass "MakerStarts$Text" = some m.cls := findClass_of_methodNamed B.named
  have hlocks := B.notSynchronized
  have hin : meth.name = "<init>" := (name_of_methodNamed B.named B.method).1
  subst hsz
  have hD := hD0.self (sz := s.heap.size)
  generalize hAe : va_A [(h0, .inr (7, [.null, .int 0, .null, .null, .int 0, .null, .int 0, .int 0, .int 0]))] s.heap.size = A at hD hG ⊢
  have hA : ∀ q : Nat, s.heap.size ≤ q → A q := fun q h => by rw [← hAe]; exact Or.inr h
  have hS : va_S A s.heap s.heap [] := va_S.rf
  have hP : va_P D vwCl [(h0, .inr (7, [.null, .int 0, .null, .null, .int 0, .null, .int 0, .int 0, .int 0]))] s.heap := hP
  have hl := lv_entry ([.ref h0]) (n := 1) (Nat.le_of_ble_eq_true rfl)
  rw [lg_entry_eq]
  generalize (lg_sl ([.ref h0]) ++ List.replicate (1 - (lg_sl ([.ref h0])).length) Slot.unset).toArray = ls at hl ⊢
  have hl : lv_has ls 1 [(0, .ref h0)] := hl
  refine lv_aload_n hx hb dX7_init_0 rfl (lv_at hl 0 rfl) ?_
  refine W.objInit hx hb hown (hT _ t_182) (hT _ t_175) (hT _ t_176) rfl (by rw [hml]; exact hl.1) rfl dX7_init_1 (Nat.le_of_ble_eq_true rfl) (Nat.le_of_ble_eq_true rfl) ?_
  refine W.eq (g2 := F0 m 4 ls []) rfl ?_
  refine lv_aload_n hx hb dX7_init_4 rfl (lv_at hl 0 rfl) ?_
  refine lv_bipush (v := 8) hx hb dX7_init_5 (by decide) ?_
  refine va_newq (n := 8) (N' := 8) hx hb hown (hT _ t_183) hG.aoType hK hP hD hS hA (by decide) (by decide) (by decide) (Nat.le_of_ble_eq_true rfl) (Nat.le_of_ble_eq_true rfl) dX7_init_7 (fun q1 cA H hK9 hP hD hS => ?_)
  obtain rfl := ty_same hK9 4 6 rfl rfl
  clear hK9
  have hP : va_P D vwCl [(h0, .inr (7, [.null, .int 0, .null, .null, .int 0, .null, .int 0, .int 0, .int 0])), (q1, .inl (cy 4, 8, .inr (.inr (.inr (.inr (fun _ => none))))))] H := hP
  have hD : va_D A [(h0, .inr (7, [.null, .int 0, .null, .null, .int 0, .null, .int 0, .int 0, .int 0])), (q1, .inl (cy 4, 8, .inr (.inr (.inr (.inr (fun _ => none))))))] := hD
  refine va_putF (D := D) (ci := 7) (v := .ref q1) (ty := .array (.object "MakerStarts$Type")) (C := RX7) (T := TX7) (N := 9) hx hb hT i_TX7 tyX7 tyX7_ok nmX7 hown hK hP hD hS 0 rfl rfl 0 (by decide) (hT _ t_212) (fun _ h9 => h9) rfl hin rfl (by decide +kernel) rfl rfl (Nat.le_of_ble_eq_true rfl) dX7_init_10 (fun H locs hP hD hS => ?_)
  have hP : va_P D vwCl [(h0, .inr (7, [.ref q1, .int 0, .null, .null, .int 0, .null, .int 0, .int 0, .int 0])), (q1, .inl (cy 4, 8, .inr (.inr (.inr (.inr (fun _ => none))))))] H := hP
  have hD : va_D A [(h0, .inr (7, [.ref q1, .int 0, .null, .null, .int 0, .null, .int 0, .int 0, .int 0])), (q1, .inl (cy 4, 8, .inr (.inr (.inr (.inr (fun _ => none))))))] := hD
  refine lv_aload_n hx hb dX7_init_13 rfl (lv_at hl 0 rfl) ?_
  refine va_new (ci := 0) (fs := [.int 0, .null, .int 0]) (C := RJx4a65c) (T := TJx4a65c) (N := 3) hx hb hT i_TJx4a65c tyJx4a65c tyJx4a65c_ok hown (hT _ t_185) (hT _ t_186) (hT _ t_142) hK hP hD hS hA rfl f_TJx4a65c (Nat.le_of_ble_eq_true rfl) (Nat.le_of_ble_eq_true rfl) dX7_init_14 (fun q2 H hP hD hS => ?_)
  have hP : va_P D vwCl [(h0, .inr (7, [.ref q1, .int 0, .null, .null, .int 0, .null, .int 0, .int 0, .int 0])), (q1, .inl (cy 4, 8, .inr (.inr (.inr (.inr (fun _ => none)))))), (q2, .inr (0, [.int 0, .null, .int 0]))] H := hP
  have hD : va_D A [(h0, .inr (7, [.ref q1, .int 0, .null, .null, .int 0, .null, .int 0, .int 0, .int 0])), (q1, .inl (cy 4, 8, .inr (.inr (.inr (.inr (fun _ => none)))))), (q2, .inr (0, [.int 0, .null, .int 0]))] := hD
  refine lv_dup hx hb dX7_init_17 rfl ?_
  have hPc := hP.sub (ws' := [(q2, .inr (0, [.int 0, .null, .int 0]))]) [2] rfl
  have hDc := hD.sub (ws' := [(q2, .inr (0, [.int 0, .null, .int 0]))]) [2] (by decide) rfl
  have hFc := va_free (wc := [(q2, .inr (0, [.int 0, .null, .int 0]))]) hD hS hA [2] rfl
  refine va_callv (va_runI (As := []) (rest := [.ref q2, .ref h0]) ⟨hx, hb, hml, hown, hT⟩ (j_al_init l D cy H.size q2 tE tK tV s1 s2 s3) (cwI 0 hT (gTB t_189) rfl rfl rfl (hT _ t_142) (hT _ t_187) (hT _ t_188) rfl (by decide +kernel) ⟨Nat.le_of_ble_eq_true rfl, Nat.le_of_ble_eq_true rfl⟩) ⟨fun a U g mk q => by obtain ⟨q0, q1, qP, qK, qD, qx0⟩ := q; exact ⟨q0, q1, qP, va_K.moved (u := U) (U := U.calling g mk a) (Vm.Alike.refl U.vm) qK, qD, Gv.calling qx0⟩, fun U hU hW => ⟨rfl, by rw [hU], by rw [hU]; exact hPc, va_K.moved hW.alike hK, hDc.weaken (fun _ _ _ _ => trivial), hG.call hS hFc hU hW⟩⟩ rfl rfl hl.1 rfl (lv_room (Nat.le_of_ble_eq_true rfl)) dX7_init_18 ⟨Nat.le_of_ble_eq_true rfl, Nat.le_of_ble_eq_true rfl⟩) hS (fun q _ h => hFc q h) hFc (fun  u t H1 locs ht hvm w3 hB hz1 hk1 hS => ?_)
  obtain ⟨hP1, hD1⟩ := hB
  rw [ht] at hP1
  obtain ⟨hP, hD⟩ := va_join (wr := [(h0, .inr (7, [.ref q1, .int 0, .null, .null, .int 0, .null, .int 0, .int 0, .int 0])), (q1, .inl (cy 4, 8, .inr (.inr (.inr (.inr (fun _ => none))))))]) (w1 := [(q2, .inr (0, [.int 0, .ref tE, .int 0]))]) hP hD [2] [0, 1] rfl rfl (by decide) (by decide) hk1 hFc hP1 hD1
  generalize H1 = H at hP hS ⊢
  have hP : va_P D vwCl [(h0, .inr (7, [.ref q1, .int 0, .null, .null, .int 0, .null, .int 0, .int 0, .int 0])), (q1, .inl (cy 4, 8, .inr (.inr (.inr (.inr (fun _ => none)))))), (q2, .inr (0, [.int 0, .ref tE, .int 0]))] H := hP
  have hD : va_D A [(h0, .inr (7, [.ref q1, .int 0, .null, .null, .int 0, .null, .int 0, .int 0, .int 0])), (q1, .inl (cy 4, 8, .inr (.inr (.inr (.inr (fun _ => none)))))), (q2, .inr (0, [.int 0, .ref tE, .int 0]))] := hD
  refine va_putF (D := D) (ci := 7) (v := .ref q2) (ty := .object "java/util/ArrayList") (C := RX7) (T := TX7) (N := 9) hx hb hT i_TX7 tyX7 tyX7_ok nmX7 hown hK hP hD hS 0 rfl rfl 2 (by decide) (hT _ t_218) (fun _ h9 => h9) rfl hin rfl (by decide +kernel) rfl rfl (Nat.le_of_ble_eq_true rfl) dX7_init_21 (fun H locs hP hD hS => ?_)
  have hP : va_P D vwCl [(h0, .inr (7, [.ref q1, .int 0, .ref q2, .null, .int 0, .null, .int 0, .int 0, .int 0])), (q1, .inl (cy 4, 8, .inr (.inr (.inr (.inr (fun _ => none)))))), (q2, .inr (0, [.int 0, .ref tE, .int 0]))] H := hP
  have hD : va_D A [(h0, .inr (7, [.ref q1, .int 0, .ref q2, .null, .int 0, .null, .int 0, .int 0, .int 0])), (q1, .inl (cy 4, 8, .inr (.inr (.inr (.inr (fun _ => none)))))), (q2, .inr (0, [.int 0, .ref tE, .int 0]))] := hD
  refine lv_aload_n hx hb dX7_init_24 rfl (lv_at hl 0 rfl) ?_
  refine lv_sipush (v := 4288) hx hb dX7_init_25 (by decide) ?_
  refine va_newa (atype := .int) (n := 4288) (a0 := (4288, .inl (fun _ => 0))) (ty := .int) hx hb (hT _ t_254) rfl hK hP hD hS hA (fun _ => rfl) (by decide) (by decide) (by decide) (Nat.le_of_ble_eq_true rfl) (Nat.le_of_ble_eq_true rfl) dX7_init_28 (fun q4 cA H hK9 hP hD hS => ?_)
  obtain rfl := ty_same hK9 1 6 rfl rfl
  clear hK9
  have hP : va_P D vwCl [(h0, .inr (7, [.ref q1, .int 0, .ref q2, .null, .int 0, .null, .int 0, .int 0, .int 0])), (q1, .inl (cy 4, 8, .inr (.inr (.inr (.inr (fun _ => none)))))), (q2, .inr (0, [.int 0, .ref tE, .int 0])), (q4, .inl (cy 1, 4288, .inl (fun _ => 0)))] H := hP
  have hD : va_D A [(h0, .inr (7, [.ref q1, .int 0, .ref q2, .null, .int 0, .null, .int 0, .int 0, .int 0])), (q1, .inl (cy 4, 8, .inr (.inr (.inr (.inr (fun _ => none)))))), (q2, .inr (0, [.int 0, .ref tE, .int 0])), (q4, .inl (cy 1, 4288, .inl (fun _ => 0)))] := hD
  refine va_putF (D := D) (ci := 7) (v := .ref q4) (ty := .array .int) (C := RX7) (T := TX7) (N := 9) hx hb hT i_TX7 tyX7 tyX7_ok nmX7 hown hK hP hD hS 0 rfl rfl 3 (by decide) (hT _ t_221) (fun _ h9 => h9) rfl hin rfl (by decide +kernel) rfl rfl (Nat.le_of_ble_eq_true rfl) dX7_init_30 (fun H locs hP hD hS => ?_)
  have hP : va_P D vwCl [(h0, .inr (7, [.ref q1, .int 0, .ref q2, .ref q4, .int 0, .null, .int 0, .int 0, .int 0])), (q1, .inl (cy 4, 8, .inr (.inr (.inr (.inr (fun _ => none)))))), (q2, .inr (0, [.int 0, .ref tE, .int 0])), (q4, .inl (cy 1, 4288, .inl (fun _ => 0)))] H := hP
  have hD : va_D A [(h0, .inr (7, [.ref q1, .int 0, .ref q2, .ref q4, .int 0, .null, .int 0, .int 0, .int 0])), (q1, .inl (cy 4, 8, .inr (.inr (.inr (.inr (fun _ => none)))))), (q2, .inr (0, [.int 0, .ref tE, .int 0])), (q4, .inl (cy 1, 4288, .inl (fun _ => 0)))] := hD
  refine lv_aload_n hx hb dX7_init_33 rfl (lv_at hl 0 rfl) ?_
  refine lv_sipush (v := 2064) hx hb dX7_init_34 (by decide) ?_
  refine va_newa (atype := .int) (n := 2064) (a0 := (2064, .inl (fun _ => 0))) (ty := .int) hx hb (hT _ t_254) rfl hK hP hD hS hA (fun _ => rfl) (by decide) (by decide) (by decide) (Nat.le_of_ble_eq_true rfl) (Nat.le_of_ble_eq_true rfl) dX7_init_37 (fun q5 cA H hK9 hP hD hS => ?_)
  obtain rfl := ty_same hK9 1 6 rfl rfl
  clear hK9
  have hP : va_P D vwCl [(h0, .inr (7, [.ref q1, .int 0, .ref q2, .ref q4, .int 0, .null, .int 0, .int 0, .int 0])), (q1, .inl (cy 4, 8, .inr (.inr (.inr (.inr (fun _ => none)))))), (q2, .inr (0, [.int 0, .ref tE, .int 0])), (q4, .inl (cy 1, 4288, .inl (fun _ => 0))), (q5, .inl (cy 1, 2064, .inl (fun _ => 0)))] H := hP
  have hD : va_D A [(h0, .inr (7, [.ref q1, .int 0, .ref q2, .ref q4, .int 0, .null, .int 0, .int 0, .int 0])), (q1, .inl (cy 4, 8, .inr (.inr (.inr (.inr (fun _ => none)))))), (q2, .inr (0, [.int 0, .ref tE, .int 0])), (q4, .inl (cy 1, 4288, .inl (fun _ => 0))), (q5, .inl (cy 1, 2064, .inl (fun _ => 0)))] := hD
  refine va_putF (D := D) (ci := 7) (v := .ref q5) (ty := .array .int) (C := RX7) (T := TX7) (N := 9) hx hb hT i_TX7 tyX7 tyX7_ok nmX7 hown hK hP hD hS 0 rfl rfl 5 (by decide) (hT _ t_225) (fun _ h9 => h9) rfl hin rfl (by decide +kernel) rfl rfl (Nat.le_of_ble_eq_true rfl) dX7_init_39 (fun H locs hP hD hS => ?_)
  have hP : va_P D vwCl [(h0, .inr (7, [.ref q1, .int 0, .ref q2, .ref q4, .int 0, .ref q5, .int 0, .int 0, .int 0])), (q1, .inl (cy 4, 8, .inr (.inr (.inr (.inr (fun _ => none)))))), (q2, .inr (0, [.int 0, .ref tE, .int 0])), (q4, .inl (cy 1, 4288, .inl (fun _ => 0))), (q5, .inl (cy 1, 2064, .inl (fun _ => 0)))] H := hP
  have hD : va_D A [(h0, .inr (7, [.ref q1, .int 0, .ref q2, .ref q4, .int 0, .ref q5, .int 0, .int 0, .int 0])), (q1, .inl (cy 4, 8, .inr (.inr (.inr (.inr (fun _ => none)))))), (q2, .inr (0, [.int 0, .ref tE, .int 0])), (q4, .inl (cy 1, 4288, .inl (fun _ => 0))), (q5, .inl (cy 1, 2064, .inl (fun _ => 0)))] := hD
  have hP9 := hP.sub (ws' := [(h0, .inr (7, [.ref q1, .int 0, .ref q2, .ref q4, .int 0, .ref q5, .int 0, .int 0, .int 0])), (q1, .inl (cy 4, 8, .inr (.inr (.inr (.inr (fun _ => none)))))), (q2, .inr (0, [.int 0, .ref tE, .int 0]))]) [0, 1, 2] rfl
  have hD9 := hD.sub (ws' := [(h0, .inr (7, [.ref q1, .int 0, .ref q2, .ref q4, .int 0, .ref q5, .int 0, .int 0, .int 0])), (q1, .inl (cy 4, 8, .inr (.inr (.inr (.inr (fun _ => none)))))), (q2, .inr (0, [.int 0, .ref tE, .int 0]))]) [0, 1, 2] (by decide) rfl
  refine W.widen (k := 4) (n := 6363) (Nat.le_of_ble_eq_true rfl) (Nat.le_of_ble_eq_true rfl) ?_
  exact W.vret hx hb hr (fun t ht hW => ⟨⟨(q1, q2, q4, q5), rfl, trivial, by rw [ht]; exact hP9, hD9⟩, hS.F ht⟩) hS.2.2 dX7_init_42

set_option maxHeartbeats 4000000 in
set_option maxRecDepth 100000 in
theorem c_Bodies_init (l : Launch) (D : va_G) (cy : Nat → ClassId) (sz : Nat) (h0 : Nat) (a1 : Nat) : Met l yX0_init (.code yX0_init cX0_init 2 none :: TB) ({ frames := 1, cells := 0, slots := 0, locals := 12 }) (va_Pc [.ref h0, .ref a1] (fun U => U.heap.size = sz ∧ va_P D vwCl [(h0, .inr (1, [.null, .null, .null, .int 0, .int 0, .int 0]))] U.heap ∧ va_K D vwCl (TY cy) U ∧ va_D (fun _ => True) [(h0, .inr (1, [.null, .null, .null, .int 0, .int 0, .int 0]))])) (va_Qv (fun (u : Unit) => True) (fun (u : Unit) t => va_P D vwCl [(h0, .inr (1, [.ref a1, .null, .null, .int 0, .int 0, .int 0]))] t.heap ∧ va_D (va_A [(h0, .inr (1, [.null, .null, .null, .int 0, .int 0, .int 0]))] sz) [(h0, .inr (1, [.ref a1, .null, .null, .int 0, .int 0, .int 0]))]) (va_A [(h0, .inr (1, [.null, .null, .null, .int 0, .int 0, .int 0]))] sz)) 0 0 (va_A [(h0, .inr (1, [.null, .null, .null, .int 0, .int 0, .int 0]))] sz) := by
  refine Met.ofW (cc := cX0_init) (maxL := 2) (ret := none) (by decide) rfl ?_
  intro p e s m args below meth c s₁ B hml hv
  obtain ⟨rfl, hsz, hP, hK, hD0⟩ := hv
  have hx := B.exec
  have hb := B.bytes
  have hr := B.returns
  have hts := atoms_spec (ws := .code yX0_init cX0_init 2 none :: TB) B.pre
  have hT : ∀ w ∈ TB, w.before _ s = true := fun w h => hts w (List.mem_cons_of_mem _ h)
  have hown : s.vm.findClass "MakerStarts$Bodies" = some m.cls := findClass_of_methodNamed B.named
  have hlocks := B.notSynchronized
  have hin : meth.name = "<init>" := (name_of_methodNamed B.named B.method).1
  subst hsz
  have hD := hD0.self (sz := s.heap.size)
  generalize hAe : va_A [(h0, .inr (1, [.null, .null, .null, .int 0, .int 0, .int 0]))] s.heap.size = A at hD  ⊢
  have hA : ∀ q : Nat, s.heap.size ≤ q → A q := fun q h => by rw [← hAe]; exact Or.inr h
  have hS : va_S A s.heap s.heap [] := va_S.rf
  have hP : va_P D vwCl [(h0, .inr (1, [.null, .null, .null, .int 0, .int 0, .int 0]))] s.heap := hP
  have hl := lv_entry ([.ref h0, .ref a1]) (n := 2) (Nat.le_of_ble_eq_true rfl)
  rw [lg_entry_eq]
  generalize (lg_sl ([.ref h0, .ref a1]) ++ List.replicate (2 - (lg_sl ([.ref h0, .ref a1])).length) Slot.unset).toArray = ls at hl ⊢
  have hl : lv_has ls 2 [(0, .ref h0), (1, .ref a1)] := hl
  refine lv_aload_n hx hb dX0_init_0 rfl (lv_at hl 0 rfl) ?_
  refine W.objInit hx hb hown (hT _ t_353) (hT _ t_175) (hT _ t_176) rfl (by rw [hml]; exact hl.1) rfl dX0_init_1 (Nat.le_of_ble_eq_true rfl) (Nat.le_of_ble_eq_true rfl) ?_
  refine W.eq (g2 := F0 m 4 ls []) rfl ?_
  refine lv_aload_n hx hb dX0_init_4 rfl (lv_at hl 0 rfl) ?_
  refine lv_null hx hb dX0_init_5 ?_
  refine va_put (D := D) (ci := 1) (v := .null) (ty := .object "MakerStarts$Text") (C := RX0) (T := TX0) (N := 6) hx hb hT i_TX0 tyX0 tyX0_ok nmX0 hown hK hP hD hS 0 rfl rfl 1 (by decide) (hT _ t_355) (fun _ h9 => h9) rfl (by decide +kernel) rfl rfl (Nat.le_of_ble_eq_true rfl) dX0_init_6 (fun H locs hP hD hS => ?_)
  have hP : va_P D vwCl [(h0, .inr (1, [.null, .null, .null, .int 0, .int 0, .int 0]))] H := hP
  have hD : va_D A [(h0, .inr (1, [.null, .null, .null, .int 0, .int 0, .int 0]))] := hD
  refine lv_aload_n hx hb dX0_init_9 rfl (lv_at hl 0 rfl) ?_
  refine lv_null hx hb dX0_init_10 ?_
  refine va_put (D := D) (ci := 1) (v := .null) (ty := .object "MakerStarts$Member") (C := RX0) (T := TX0) (N := 6) hx hb hT i_TX0 tyX0 tyX0_ok nmX0 hown hK hP hD hS 0 rfl rfl 2 (by decide) (hT _ t_356) (fun _ h9 => h9) rfl (by decide +kernel) rfl rfl (Nat.le_of_ble_eq_true rfl) dX0_init_11 (fun H locs hP hD hS => ?_)
  have hP : va_P D vwCl [(h0, .inr (1, [.null, .null, .null, .int 0, .int 0, .int 0]))] H := hP
  have hD : va_D A [(h0, .inr (1, [.null, .null, .null, .int 0, .int 0, .int 0]))] := hD
  refine lv_aload_n hx hb dX0_init_14 rfl (lv_at hl 0 rfl) ?_
  refine lv_iconst (v := 0) hx hb dX0_init_15 (by decide) ?_
  refine va_put (D := D) (ci := 1) (v := .int 0) (ty := .boolean) (C := RX0) (T := TX0) (N := 6) hx hb hT i_TX0 tyX0 tyX0_ok nmX0 hown hK hP hD hS 0 rfl rfl 3 (by decide) (hT _ t_357) (fun _ h9 => h9) rfl (by decide +kernel) rfl rfl (Nat.le_of_ble_eq_true rfl) dX0_init_16 (fun H locs hP hD hS => ?_)
  have hP : va_P D vwCl [(h0, .inr (1, [.null, .null, .null, .int 0, .int 0, .int 0]))] H := hP
  have hD : va_D A [(h0, .inr (1, [.null, .null, .null, .int 0, .int 0, .int 0]))] := hD
  refine lv_aload_n hx hb dX0_init_19 rfl (lv_at hl 0 rfl) ?_
  refine lv_iconst (v := 0) hx hb dX0_init_20 (by decide) ?_
  refine va_put (D := D) (ci := 1) (v := .int 0) (ty := .int) (C := RX0) (T := TX0) (N := 6) hx hb hT i_TX0 tyX0 tyX0_ok nmX0 hown hK hP hD hS 0 rfl rfl 4 (by decide) (hT _ t_358) (fun _ h9 => h9) rfl (by decide +kernel) rfl rfl (Nat.le_of_ble_eq_true rfl) dX0_init_21 (fun H locs hP hD hS => ?_)
  have hP : va_P D vwCl [(h0, .inr (1, [.null, .null, .null, .int 0, .int 0, .int 0]))] H := hP
  have hD : va_D A [(h0, .inr (1, [.null, .null, .null, .int 0, .int 0, .int 0]))] := hD
  refine lv_aload_n hx hb dX0_init_24 rfl (lv_at hl 0 rfl) ?_
  refine lv_iconst (v := 0) hx hb dX0_init_25 (by decide) ?_
  refine va_put (D := D) (ci := 1) (v := .int 0) (ty := .int) (C := RX0) (T := TX0) (N := 6) hx hb hT i_TX0 tyX0 tyX0_ok nmX0 hown hK hP hD hS 0 rfl rfl 5 (by decide) (hT _ t_359) (fun _ h9 => h9) rfl (by decide +kernel) rfl rfl (Nat.le_of_ble_eq_true rfl) dX0_init_26 (fun H locs hP hD hS => ?_)
  have hP : va_P D vwCl [(h0, .inr (1, [.null, .null, .null, .int 0, .int 0, .int 0]))] H := hP
  have hD : va_D A [(h0, .inr (1, [.null, .null, .null, .int 0, .int 0, .int 0]))] := hD
  refine lv_aload_n hx hb dX0_init_29 rfl (lv_at hl 0 rfl) ?_
  refine lv_aload_n hx hb dX0_init_30 rfl (lv_at hl 1 rfl) ?_
  refine va_putF (D := D) (ci := 1) (v := .ref a1) (ty := .object "MakerStarts$Tokens") (C := RX0) (T := TX0) (N := 6) hx hb hT i_TX0 tyX0 tyX0_ok nmX0 hown hK hP hD hS 0 rfl rfl 0 (by decide) (hT _ t_354) (fun _ h9 => h9) rfl hin rfl (by decide +kernel) rfl rfl (Nat.le_of_ble_eq_true rfl) dX0_init_31 (fun H locs hP hD hS => ?_)
  have hP : va_P D vwCl [(h0, .inr (1, [.ref a1, .null, .null, .int 0, .int 0, .int 0]))] H := hP
  have hD : va_D A [(h0, .inr (1, [.ref a1, .null, .null, .int 0, .int 0, .int 0]))] := hD
  have hP9 := hP.sub (ws' := [(h0, .inr (1, [.ref a1, .null, .null, .int 0, .int 0, .int 0]))]) [0] rfl
  have hD9 := hD.sub (ws' := [(h0, .inr (1, [.ref a1, .null, .null, .int 0, .int 0, .int 0]))]) [0] (by decide) rfl
  refine W.widen (k := 0) (n := 0) (Nat.le_of_ble_eq_true rfl) (Nat.le_of_ble_eq_true rfl) ?_
  exact W.vret hx hb hr (fun t ht hW => ⟨⟨(), rfl, trivial, by rw [ht]; exact hP9, hD9⟩, hS.F ht⟩) hS.2.2 dX0_init_34

set_option maxHeartbeats 4000000 in
set_option maxRecDepth 100000 in
theorem c_Flow_init (l : Launch) (D : va_G) (cy : Nat → ClassId) (sz : Nat) (h0 : Nat) : Met l yX1_init (.code yX1_init cX1_init 1 none :: TB) ({ frames := 1, cells := 2, slots := 80, locals := 12 }) (va_Pc [.ref h0] (fun U => U.heap.size = sz ∧ va_P D vwCl [(h0, .inr (2, [.null, .null, .int 0, .null]))] U.heap ∧ va_K D vwCl (TY cy) U ∧ va_D (fun _ => True) [(h0, .inr (2, [.null, .null, .int 0, .null]))])) (va_Qv (fun (u : Nat × Nat) => True) (fun (u : Nat × Nat) t => va_P D vwCl [(h0, .inr (2, [.ref u.1, .ref u.2, .int 0, .null]))] t.heap ∧ va_D (va_A [(h0, .inr (2, [.null, .null, .int 0, .null]))] sz) [(h0, .inr (2, [.ref u.1, .ref u.2, .int 0, .null]))]) (va_A [(h0, .inr (2, [.null, .null, .int 0, .null]))] sz)) 2 80 (va_A [(h0, .inr (2, [.null, .null, .int 0, .null]))] sz) := by
  refine Met.ofW (cc := cX1_init) (maxL := 1) (ret := none) (by decide) rfl ?_
  intro p e s m args below meth c s₁ B hml hv
  obtain ⟨rfl, hsz, hP, hK, hD0⟩ := hv
  have hx := B.exec
  have hb := B.bytes
  have hr := B.returns
  have hts := atoms_spec (ws := .code yX1_init cX1_init 1 none :: TB) B.pre
  have hT : ∀ w ∈ TB, w.before _ s = true := fun w h => hts w (List.mem_cons_of_mem _ h)
  have hown : s.vm.findClass "MakerStarts$Flow" = some m.cls := findClass_of_methodNamed B.named
  have hlocks := B.notSynchronized
  have hin : meth.name = "<init>" := (name_of_methodNamed B.named B.method).1
  subst hsz
  have hD := hD0.self (sz := s.heap.size)
  generalize hAe : va_A [(h0, .inr (2, [.null, .null, .int 0, .null]))] s.heap.size = A at hD  ⊢
  have hA : ∀ q : Nat, s.heap.size ≤ q → A q := fun q h => by rw [← hAe]; exact Or.inr h
  have hS : va_S A s.heap s.heap [] := va_S.rf
  have hP : va_P D vwCl [(h0, .inr (2, [.null, .null, .int 0, .null]))] s.heap := hP
  have hl := lv_entry ([.ref h0]) (n := 1) (Nat.le_of_ble_eq_true rfl)
  rw [lg_entry_eq]
  generalize (lg_sl ([.ref h0]) ++ List.replicate (1 - (lg_sl ([.ref h0])).length) Slot.unset).toArray = ls at hl ⊢
  have hl : lv_has ls 1 [(0, .ref h0)] := hl
  refine lv_aload_n hx hb dX1_init_0 rfl (lv_at hl 0 rfl) ?_
  refine W.objInit hx hb hown (hT _ t_388) (hT _ t_175) (hT _ t_176) rfl (by rw [hml]; exact hl.1) rfl dX1_init_1 (Nat.le_of_ble_eq_true rfl) (Nat.le_of_ble_eq_true rfl) ?_
  refine W.eq (g2 := F0 m 4 ls []) rfl ?_
  refine lv_aload_n hx hb dX1_init_4 rfl (lv_at hl 0 rfl) ?_
  refine lv_bipush (v := 40) hx hb dX1_init_5 (by decide) ?_
  refine va_newa (atype := .int) (n := 40) (a0 := (40, .inl (fun _ => 0))) (ty := .int) hx hb (hT _ t_254) rfl hK hP hD hS hA (fun _ => rfl) (by decide) (by decide) (by decide) (Nat.le_of_ble_eq_true rfl) (Nat.le_of_ble_eq_true rfl) dX1_init_7 (fun q1 cA H hK9 hP hD hS => ?_)
  obtain rfl := ty_same hK9 1 6 rfl rfl
  clear hK9
  have hP : va_P D vwCl [(h0, .inr (2, [.null, .null, .int 0, .null])), (q1, .inl (cy 1, 40, .inl (fun _ => 0)))] H := hP
  have hD : va_D A [(h0, .inr (2, [.null, .null, .int 0, .null])), (q1, .inl (cy 1, 40, .inl (fun _ => 0)))] := hD
  refine va_putF (D := D) (ci := 2) (v := .ref q1) (ty := .array .int) (C := RX1) (T := TX1) (N := 4) hx hb hT i_TX1 tyX1 tyX1_ok nmX1 hown hK hP hD hS 0 rfl rfl 0 (by decide) (hT _ t_389) (fun _ h9 => h9) rfl hin rfl (by decide +kernel) rfl rfl (Nat.le_of_ble_eq_true rfl) dX1_init_9 (fun H locs hP hD hS => ?_)
  have hP : va_P D vwCl [(h0, .inr (2, [.ref q1, .null, .int 0, .null])), (q1, .inl (cy 1, 40, .inl (fun _ => 0)))] H := hP
  have hD : va_D A [(h0, .inr (2, [.ref q1, .null, .int 0, .null])), (q1, .inl (cy 1, 40, .inl (fun _ => 0)))] := hD
  refine lv_aload_n hx hb dX1_init_12 rfl (lv_at hl 0 rfl) ?_
  refine lv_bipush (v := 40) hx hb dX1_init_13 (by decide) ?_
  refine va_newa (atype := .boolean) (n := 40) (a0 := (40, .inl (fun _ => 0))) (ty := .boolean) hx hb (hT _ t_402) rfl hK hP hD hS hA (fun _ => rfl) (by decide) (by decide) (by decide) (Nat.le_of_ble_eq_true rfl) (Nat.le_of_ble_eq_true rfl) dX1_init_15 (fun q2 cA H hK9 hP hD hS => ?_)
  obtain rfl := ty_same hK9 3 6 rfl rfl
  clear hK9
  have hP : va_P D vwCl [(h0, .inr (2, [.ref q1, .null, .int 0, .null])), (q1, .inl (cy 1, 40, .inl (fun _ => 0))), (q2, .inl (cy 3, 40, .inl (fun _ => 0)))] H := hP
  have hD : va_D A [(h0, .inr (2, [.ref q1, .null, .int 0, .null])), (q1, .inl (cy 1, 40, .inl (fun _ => 0))), (q2, .inl (cy 3, 40, .inl (fun _ => 0)))] := hD
  refine va_putF (D := D) (ci := 2) (v := .ref q2) (ty := .array .boolean) (C := RX1) (T := TX1) (N := 4) hx hb hT i_TX1 tyX1 tyX1_ok nmX1 hown hK hP hD hS 0 rfl rfl 1 (by decide) (hT _ t_390) (fun _ h9 => h9) rfl hin rfl (by decide +kernel) rfl rfl (Nat.le_of_ble_eq_true rfl) dX1_init_17 (fun H locs hP hD hS => ?_)
  have hP : va_P D vwCl [(h0, .inr (2, [.ref q1, .ref q2, .int 0, .null])), (q1, .inl (cy 1, 40, .inl (fun _ => 0))), (q2, .inl (cy 3, 40, .inl (fun _ => 0)))] H := hP
  have hD : va_D A [(h0, .inr (2, [.ref q1, .ref q2, .int 0, .null])), (q1, .inl (cy 1, 40, .inl (fun _ => 0))), (q2, .inl (cy 3, 40, .inl (fun _ => 0)))] := hD
  refine lv_aload_n hx hb dX1_init_20 rfl (lv_at hl 0 rfl) ?_
  refine lv_iconst (v := 0) hx hb dX1_init_21 (by decide) ?_
  refine va_put (D := D) (ci := 2) (v := .int 0) (ty := .int) (C := RX1) (T := TX1) (N := 4) hx hb hT i_TX1 tyX1 tyX1_ok nmX1 hown hK hP hD hS 0 rfl rfl 2 (by decide) (hT _ t_391) (fun _ h9 => h9) rfl (by decide +kernel) rfl rfl (Nat.le_of_ble_eq_true rfl) dX1_init_22 (fun H locs hP hD hS => ?_)
  have hP : va_P D vwCl [(h0, .inr (2, [.ref q1, .ref q2, .int 0, .null])), (q1, .inl (cy 1, 40, .inl (fun _ => 0))), (q2, .inl (cy 3, 40, .inl (fun _ => 0)))] H := hP
  have hD : va_D A [(h0, .inr (2, [.ref q1, .ref q2, .int 0, .null])), (q1, .inl (cy 1, 40, .inl (fun _ => 0))), (q2, .inl (cy 3, 40, .inl (fun _ => 0)))] := hD
  refine lv_aload_n hx hb dX1_init_25 rfl (lv_at hl 0 rfl) ?_
  refine lv_null hx hb dX1_init_26 ?_
  refine va_put (D := D) (ci := 2) (v := .null) (ty := .object "MakerStarts$Text") (C := RX1) (T := TX1) (N := 4) hx hb hT i_TX1 tyX1 tyX1_ok nmX1 hown hK hP hD hS 0 rfl rfl 3 (by decide) (hT _ t_392) (fun _ h9 => h9) rfl (by decide +kernel) rfl rfl (Nat.le_of_ble_eq_true rfl) dX1_init_27 (fun H locs hP hD hS => ?_)
  have hP : va_P D vwCl [(h0, .inr (2, [.ref q1, .ref q2, .int 0, .null])), (q1, .inl (cy 1, 40, .inl (fun _ => 0))), (q2, .inl (cy 3, 40, .inl (fun _ => 0)))] H := hP
  have hD : va_D A [(h0, .inr (2, [.ref q1, .ref q2, .int 0, .null])), (q1, .inl (cy 1, 40, .inl (fun _ => 0))), (q2, .inl (cy 3, 40, .inl (fun _ => 0)))] := hD
  have hP9 := hP.sub (ws' := [(h0, .inr (2, [.ref q1, .ref q2, .int 0, .null]))]) [0] rfl
  have hD9 := hD.sub (ws' := [(h0, .inr (2, [.ref q1, .ref q2, .int 0, .null]))]) [0] (by decide) rfl
  refine W.widen (k := 2) (n := 80) (Nat.le_of_ble_eq_true rfl) (Nat.le_of_ble_eq_true rfl) ?_
  exact W.vret hx hb hr (fun t ht hW => ⟨⟨(q1, q2), rfl, trivial, by rw [ht]; exact hP9, hD9⟩, hS.F ht⟩) hS.2.2 dX1_init_30

set_option maxHeartbeats 4000000 in
set_option maxRecDepth 100000 in
theorem c_Frame_init (l : Launch) (D : va_G) (cy : Nat → ClassId) (sz : Nat) (h0 : Nat) : Met l yX2_init (.code yX2_init cX2_init 1 none :: TB) ({ frames := 1, cells := 6, slots := 103, locals := 12 }) (va_Pc [.ref h0] (fun U => U.heap.size = sz ∧ va_P D vwCl [(h0, .inr (3, [.int 0, .int 0, .int 0, .int 0, .int 0, .int 0, .null, .int 0, .null, .null, .null, .null, .null, .null, .int 0]))] U.heap ∧ va_K D vwCl (TY cy) U ∧ va_D (fun _ => True) [(h0, .inr (3, [.int 0, .int 0, .int 0, .int 0, .int 0, .int 0, .null, .int 0, .null, .null, .null, .null, .null, .null, .int 0]))])) (va_Qv (fun (u : Nat × Nat × Nat × Nat × Nat × Nat) => True) (fun (u : Nat × Nat × Nat × Nat × Nat × Nat) t => va_P D vwCl [(h0, .inr (3, [.int 0, .int 0, .int 0, .int 0, .int 0, .int 0, .null, .int (-1), .ref u.1, .ref u.2.1, .ref u.2.2.1, .ref u.2.2.2.1, .ref u.2.2.2.2.1, .ref u.2.2.2.2.2, .int 0]))] t.heap ∧ va_D (va_A [(h0, .inr (3, [.int 0, .int 0, .int 0, .int 0, .int 0, .int 0, .null, .int 0, .null, .null, .null, .null, .null, .null, .int 0]))] sz) [(h0, .inr (3, [.int 0, .int 0, .int 0, .int 0, .int 0, .int 0, .null, .int (-1), .ref u.1, .ref u.2.1, .ref u.2.2.1, .ref u.2.2.2.1, .ref u.2.2.2.2.1, .ref u.2.2.2.2.2, .int 0]))]) (va_A [(h0, .inr (3, [.int 0, .int 0, .int 0, .int 0, .int 0, .int 0, .null, .int 0, .null, .null, .null, .null, .null, .null, .int 0]))] sz)) 6 103 (va_A [(h0, .inr (3, [.int 0, .int 0, .int 0, .int 0, .int 0, .int 0, .null, .int 0, .null, .null, .null, .null, .null, .null, .int 0]))] sz) := by
  refine Met.ofW (cc := cX2_init) (maxL := 1) (ret := none) (by decide) rfl ?_
  intro p e s m args below meth c s₁ B hml hv
  obtain ⟨rfl, hsz, hP, hK, hD0⟩ := hv
  have hx := B.exec
  have hb := B.bytes
  have hr := B.returns
  have hts := atoms_spec (ws := .code yX2_init cX2_init 1 none :: TB) B.pre
  have hT : ∀ w ∈ TB, w.before _ s = true := fun w h => hts w (List.mem_cons_of_mem _ h)
  have hown : s.vm.findClass "MakerStarts$Frame" = some m.cls := findClass_of_methodNamed B.named
  have hlocks := B.notSynchronized
  have hin : meth.name = "<init>" := (name_of_methodNamed B.named B.method).1
  subst hsz
  have hD := hD0.self (sz := s.heap.size)
  generalize hAe : va_A [(h0, .inr (3, [.int 0, .int 0, .int 0, .int 0, .int 0, .int 0, .null, .int 0, .null, .null, .null, .null, .null, .null, .int 0]))] s.heap.size = A at hD  ⊢
  have hA : ∀ q : Nat, s.heap.size ≤ q → A q := fun q h => by rw [← hAe]; exact Or.inr h
  have hS : va_S A s.heap s.heap [] := va_S.rf
  have hP : va_P D vwCl [(h0, .inr (3, [.int 0, .int 0, .int 0, .int 0, .int 0, .int 0, .null, .int 0, .null, .null, .null, .null, .null, .null, .int 0]))] s.heap := hP
  have hl := lv_entry ([.ref h0]) (n := 1) (Nat.le_of_ble_eq_true rfl)
  rw [lg_entry_eq]
  generalize (lg_sl ([.ref h0]) ++ List.replicate (1 - (lg_sl ([.ref h0])).length) Slot.unset).toArray = ls at hl ⊢
  have hl : lv_has ls 1 [(0, .ref h0)] := hl
  refine lv_aload_n hx hb dX2_init_0 rfl (lv_at hl 0 rfl) ?_
  refine W.objInit hx hb hown (hT _ t_415) (hT _ t_175) (hT _ t_176) rfl (by rw [hml]; exact hl.1) rfl dX2_init_1 (Nat.le_of_ble_eq_true rfl) (Nat.le_of_ble_eq_true rfl) ?_
  refine W.eq (g2 := F0 m 4 ls []) rfl ?_
  refine lv_aload_n hx hb dX2_init_4 rfl (lv_at hl 0 rfl) ?_
  refine lv_null hx hb dX2_init_5 ?_
  refine va_put (D := D) (ci := 3) (v := .null) (ty := .object "MakerStarts$Frame") (C := RX2) (T := TX2) (N := 15) hx hb hT i_TX2 tyX2 tyX2_ok nmX2 hown hK hP hD hS 0 rfl rfl 6 (by decide) (hT _ t_424) (fun _ h9 => h9) rfl (by decide +kernel) rfl rfl (Nat.le_of_ble_eq_true rfl) dX2_init_6 (fun H locs hP hD hS => ?_)
  have hP : va_P D vwCl [(h0, .inr (3, [.int 0, .int 0, .int 0, .int 0, .int 0, .int 0, .null, .int 0, .null, .null, .null, .null, .null, .null, .int 0]))] H := hP
  have hD : va_D A [(h0, .inr (3, [.int 0, .int 0, .int 0, .int 0, .int 0, .int 0, .null, .int 0, .null, .null, .null, .null, .null, .null, .int 0]))] := hD
  refine lv_aload_n hx hb dX2_init_9 rfl (lv_at hl 0 rfl) ?_
  refine lv_iconst (v := (-1)) hx hb dX2_init_10 (by decide) ?_
  refine va_put (D := D) (ci := 3) (v := .int (-1)) (ty := .int) (C := RX2) (T := TX2) (N := 15) hx hb hT i_TX2 tyX2 tyX2_ok nmX2 hown hK hP hD hS 0 rfl rfl 7 (by decide) (hT _ t_426) (fun _ h9 => h9) rfl (by decide +kernel) rfl rfl (Nat.le_of_ble_eq_true rfl) dX2_init_11 (fun H locs hP hD hS => ?_)
  have hP : va_P D vwCl [(h0, .inr (3, [.int 0, .int 0, .int 0, .int 0, .int 0, .int 0, .null, .int (-1), .null, .null, .null, .null, .null, .null, .int 0]))] H := hP
  have hD : va_D A [(h0, .inr (3, [.int 0, .int 0, .int 0, .int 0, .int 0, .int 0, .null, .int (-1), .null, .null, .null, .null, .null, .null, .int 0]))] := hD
  refine lv_aload_n hx hb dX2_init_14 rfl (lv_at hl 0 rfl) ?_
  refine lv_bipush (v := 64) hx hb dX2_init_15 (by decide) ?_
  refine va_newa (atype := .int) (n := 64) (a0 := (64, .inl (fun _ => 0))) (ty := .int) hx hb (hT _ t_254) rfl hK hP hD hS hA (fun _ => rfl) (by decide) (by decide) (by decide) (Nat.le_of_ble_eq_true rfl) (Nat.le_of_ble_eq_true rfl) dX2_init_17 (fun q1 cA H hK9 hP hD hS => ?_)
  obtain rfl := ty_same hK9 1 6 rfl rfl
  clear hK9
  have hP : va_P D vwCl [(h0, .inr (3, [.int 0, .int 0, .int 0, .int 0, .int 0, .int 0, .null, .int (-1), .null, .null, .null, .null, .null, .null, .int 0])), (q1, .inl (cy 1, 64, .inl (fun _ => 0)))] H := hP
  have hD : va_D A [(h0, .inr (3, [.int 0, .int 0, .int 0, .int 0, .int 0, .int 0, .null, .int (-1), .null, .null, .null, .null, .null, .null, .int 0])), (q1, .inl (cy 1, 64, .inl (fun _ => 0)))] := hD
  refine va_putF (D := D) (ci := 3) (v := .ref q1) (ty := .array .int) (C := RX2) (T := TX2) (N := 15) hx hb hT i_TX2 tyX2 tyX2_ok nmX2 hown hK hP hD hS 0 rfl rfl 8 (by decide) (hT _ t_428) (fun _ h9 => h9) rfl hin rfl (by decide +kernel) rfl rfl (Nat.le_of_ble_eq_true rfl) dX2_init_19 (fun H locs hP hD hS => ?_)
  have hP : va_P D vwCl [(h0, .inr (3, [.int 0, .int 0, .int 0, .int 0, .int 0, .int 0, .null, .int (-1), .ref q1, .null, .null, .null, .null, .null, .int 0])), (q1, .inl (cy 1, 64, .inl (fun _ => 0)))] H := hP
  have hD : va_D A [(h0, .inr (3, [.int 0, .int 0, .int 0, .int 0, .int 0, .int 0, .null, .int (-1), .ref q1, .null, .null, .null, .null, .null, .int 0])), (q1, .inl (cy 1, 64, .inl (fun _ => 0)))] := hD
  refine lv_aload_n hx hb dX2_init_22 rfl (lv_at hl 0 rfl) ?_
  refine lv_iconst (v := 3) hx hb dX2_init_23 (by decide) ?_
  refine va_newa (atype := .int) (n := 3) (a0 := (3, .inl (fun _ => 0))) (ty := .int) hx hb (hT _ t_254) rfl hK hP hD hS hA (fun _ => rfl) (by decide) (by decide) (by decide) (Nat.le_of_ble_eq_true rfl) (Nat.le_of_ble_eq_true rfl) dX2_init_24 (fun q2 cA H hK9 hP hD hS => ?_)
  obtain rfl := ty_same hK9 1 6 rfl rfl
  clear hK9
  have hP : va_P D vwCl [(h0, .inr (3, [.int 0, .int 0, .int 0, .int 0, .int 0, .int 0, .null, .int (-1), .ref q1, .null, .null, .null, .null, .null, .int 0])), (q1, .inl (cy 1, 64, .inl (fun _ => 0))), (q2, .inl (cy 1, 3, .inl (fun _ => 0)))] H := hP
  have hD : va_D A [(h0, .inr (3, [.int 0, .int 0, .int 0, .int 0, .int 0, .int 0, .null, .int (-1), .ref q1, .null, .null, .null, .null, .null, .int 0])), (q1, .inl (cy 1, 64, .inl (fun _ => 0))), (q2, .inl (cy 1, 3, .inl (fun _ => 0)))] := hD
  refine va_putF (D := D) (ci := 3) (v := .ref q2) (ty := .array .int) (C := RX2) (T := TX2) (N := 15) hx hb hT i_TX2 tyX2 tyX2_ok nmX2 hown hK hP hD hS 0 rfl rfl 9 (by decide) (hT _ t_430) (fun _ h9 => h9) rfl hin rfl (by decide +kernel) rfl rfl (Nat.le_of_ble_eq_true rfl) dX2_init_26 (fun H locs hP hD hS => ?_)
  have hP : va_P D vwCl [(h0, .inr (3, [.int 0, .int 0, .int 0, .int 0, .int 0, .int 0, .null, .int (-1), .ref q1, .ref q2, .null, .null, .null, .null, .int 0])), (q1, .inl (cy 1, 64, .inl (fun _ => 0))), (q2, .inl (cy 1, 3, .inl (fun _ => 0)))] H := hP
  have hD : va_D A [(h0, .inr (3, [.int 0, .int 0, .int 0, .int 0, .int 0, .int 0, .null, .int (-1), .ref q1, .ref q2, .null, .null, .null, .null, .int 0])), (q1, .inl (cy 1, 64, .inl (fun _ => 0))), (q2, .inl (cy 1, 3, .inl (fun _ => 0)))] := hD
  refine lv_aload_n hx hb dX2_init_29 rfl (lv_at hl 0 rfl) ?_
  refine lv_bipush (v := 9) hx hb dX2_init_30 (by decide) ?_
  refine va_newa (atype := .int) (n := 9) (a0 := (9, .inl (fun _ => 0))) (ty := .int) hx hb (hT _ t_254) rfl hK hP hD hS hA (fun _ => rfl) (by decide) (by decide) (by decide) (Nat.le_of_ble_eq_true rfl) (Nat.le_of_ble_eq_true rfl) dX2_init_32 (fun q3 cA H hK9 hP hD hS => ?_)
  obtain rfl := ty_same hK9 1 6 rfl rfl
  clear hK9
  have hP : va_P D vwCl [(h0, .inr (3, [.int 0, .int 0, .int 0, .int 0, .int 0, .int 0, .null, .int (-1), .ref q1, .ref q2, .null, .null, .null, .null, .int 0])), (q1, .inl (cy 1, 64, .inl (fun _ => 0))), (q2, .inl (cy 1, 3, .inl (fun _ => 0))), (q3, .inl (cy 1, 9, .inl (fun _ => 0)))] H := hP
  have hD : va_D A [(h0, .inr (3, [.int 0, .int 0, .int 0, .int 0, .int 0, .int 0, .null, .int (-1), .ref q1, .ref q2, .null, .null, .null, .null, .int 0])), (q1, .inl (cy 1, 64, .inl (fun _ => 0))), (q2, .inl (cy 1, 3, .inl (fun _ => 0))), (q3, .inl (cy 1, 9, .inl (fun _ => 0)))] := hD
  refine va_putF (D := D) (ci := 3) (v := .ref q3) (ty := .array .int) (C := RX2) (T := TX2) (N := 15) hx hb hT i_TX2 tyX2 tyX2_ok nmX2 hown hK hP hD hS 0 rfl rfl 10 (by decide) (hT _ t_432) (fun _ h9 => h9) rfl hin rfl (by decide +kernel) rfl rfl (Nat.le_of_ble_eq_true rfl) dX2_init_34 (fun H locs hP hD hS => ?_)
  have hP : va_P D vwCl [(h0, .inr (3, [.int 0, .int 0, .int 0, .int 0, .int 0, .int 0, .null, .int (-1), .ref q1, .ref q2, .ref q3, .null, .null, .null, .int 0])), (q1, .inl (cy 1, 64, .inl (fun _ => 0))), (q2, .inl (cy 1, 3, .inl (fun _ => 0))), (q3, .inl (cy 1, 9, .inl (fun _ => 0)))] H := hP
  have hD : va_D A [(h0, .inr (3, [.int 0, .int 0, .int 0, .int 0, .int 0, .int 0, .null, .int (-1), .ref q1, .ref q2, .ref q3, .null, .null, .null, .int 0])), (q1, .inl (cy 1, 64, .inl (fun _ => 0))), (q2, .inl (cy 1, 3, .inl (fun _ => 0))), (q3, .inl (cy 1, 9, .inl (fun _ => 0)))] := hD
  refine lv_aload_n hx hb dX2_init_37 rfl (lv_at hl 0 rfl) ?_
  refine lv_bipush (v := 9) hx hb dX2_init_38 (by decide) ?_
  refine va_newa (atype := .int) (n := 9) (a0 := (9, .inl (fun _ => 0))) (ty := .int) hx hb (hT _ t_254) rfl hK hP hD hS hA (fun _ => rfl) (by decide) (by decide) (by decide) (Nat.le_of_ble_eq_true rfl) (Nat.le_of_ble_eq_true rfl) dX2_init_40 (fun q4 cA H hK9 hP hD hS => ?_)
  obtain rfl := ty_same hK9 1 6 rfl rfl
  clear hK9
  have hP : va_P D vwCl [(h0, .inr (3, [.int 0, .int 0, .int 0, .int 0, .int 0, .int 0, .null, .int (-1), .ref q1, .ref q2, .ref q3, .null, .null, .null, .int 0])), (q1, .inl (cy 1, 64, .inl (fun _ => 0))), (q2, .inl (cy 1, 3, .inl (fun _ => 0))), (q3, .inl (cy 1, 9, .inl (fun _ => 0))), (q4, .inl (cy 1, 9, .inl (fun _ => 0)))] H := hP
  have hD : va_D A [(h0, .inr (3, [.int 0, .int 0, .int 0, .int 0, .int 0, .int 0, .null, .int (-1), .ref q1, .ref q2, .ref q3, .null, .null, .null, .int 0])), (q1, .inl (cy 1, 64, .inl (fun _ => 0))), (q2, .inl (cy 1, 3, .inl (fun _ => 0))), (q3, .inl (cy 1, 9, .inl (fun _ => 0))), (q4, .inl (cy 1, 9, .inl (fun _ => 0)))] := hD
  refine va_putF (D := D) (ci := 3) (v := .ref q4) (ty := .array .int) (C := RX2) (T := TX2) (N := 15) hx hb hT i_TX2 tyX2 tyX2_ok nmX2 hown hK hP hD hS 0 rfl rfl 11 (by decide) (hT _ t_433) (fun _ h9 => h9) rfl hin rfl (by decide +kernel) rfl rfl (Nat.le_of_ble_eq_true rfl) dX2_init_42 (fun H locs hP hD hS => ?_)
  have hP : va_P D vwCl [(h0, .inr (3, [.int 0, .int 0, .int 0, .int 0, .int 0, .int 0, .null, .int (-1), .ref q1, .ref q2, .ref q3, .ref q4, .null, .null, .int 0])), (q1, .inl (cy 1, 64, .inl (fun _ => 0))), (q2, .inl (cy 1, 3, .inl (fun _ => 0))), (q3, .inl (cy 1, 9, .inl (fun _ => 0))), (q4, .inl (cy 1, 9, .inl (fun _ => 0)))] H := hP
  have hD : va_D A [(h0, .inr (3, [.int 0, .int 0, .int 0, .int 0, .int 0, .int 0, .null, .int (-1), .ref q1, .ref q2, .ref q3, .ref q4, .null, .null, .int 0])), (q1, .inl (cy 1, 64, .inl (fun _ => 0))), (q2, .inl (cy 1, 3, .inl (fun _ => 0))), (q3, .inl (cy 1, 9, .inl (fun _ => 0))), (q4, .inl (cy 1, 9, .inl (fun _ => 0)))] := hD
  refine lv_aload_n hx hb dX2_init_45 rfl (lv_at hl 0 rfl) ?_
  refine lv_bipush (v := 9) hx hb dX2_init_46 (by decide) ?_
  refine va_newa (atype := .int) (n := 9) (a0 := (9, .inl (fun _ => 0))) (ty := .int) hx hb (hT _ t_254) rfl hK hP hD hS hA (fun _ => rfl) (by decide) (by decide) (by decide) (Nat.le_of_ble_eq_true rfl) (Nat.le_of_ble_eq_true rfl) dX2_init_48 (fun q5 cA H hK9 hP hD hS => ?_)
  obtain rfl := ty_same hK9 1 6 rfl rfl
  clear hK9
  have hP : va_P D vwCl [(h0, .inr (3, [.int 0, .int 0, .int 0, .int 0, .int 0, .int 0, .null, .int (-1), .ref q1, .ref q2, .ref q3, .ref q4, .null, .null, .int 0])), (q1, .inl (cy 1, 64, .inl (fun _ => 0))), (q2, .inl (cy 1, 3, .inl (fun _ => 0))), (q3, .inl (cy 1, 9, .inl (fun _ => 0))), (q4, .inl (cy 1, 9, .inl (fun _ => 0))), (q5, .inl (cy 1, 9, .inl (fun _ => 0)))] H := hP
  have hD : va_D A [(h0, .inr (3, [.int 0, .int 0, .int 0, .int 0, .int 0, .int 0, .null, .int (-1), .ref q1, .ref q2, .ref q3, .ref q4, .null, .null, .int 0])), (q1, .inl (cy 1, 64, .inl (fun _ => 0))), (q2, .inl (cy 1, 3, .inl (fun _ => 0))), (q3, .inl (cy 1, 9, .inl (fun _ => 0))), (q4, .inl (cy 1, 9, .inl (fun _ => 0))), (q5, .inl (cy 1, 9, .inl (fun _ => 0)))] := hD
  refine va_putF (D := D) (ci := 3) (v := .ref q5) (ty := .array .int) (C := RX2) (T := TX2) (N := 15) hx hb hT i_TX2 tyX2 tyX2_ok nmX2 hown hK hP hD hS 0 rfl rfl 12 (by decide) (hT _ t_434) (fun _ h9 => h9) rfl hin rfl (by decide +kernel) rfl rfl (Nat.le_of_ble_eq_true rfl) dX2_init_50 (fun H locs hP hD hS => ?_)
  have hP : va_P D vwCl [(h0, .inr (3, [.int 0, .int 0, .int 0, .int 0, .int 0, .int 0, .null, .int (-1), .ref q1, .ref q2, .ref q3, .ref q4, .ref q5, .null, .int 0])), (q1, .inl (cy 1, 64, .inl (fun _ => 0))), (q2, .inl (cy 1, 3, .inl (fun _ => 0))), (q3, .inl (cy 1, 9, .inl (fun _ => 0))), (q4, .inl (cy 1, 9, .inl (fun _ => 0))), (q5, .inl (cy 1, 9, .inl (fun _ => 0)))] H := hP
  have hD : va_D A [(h0, .inr (3, [.int 0, .int 0, .int 0, .int 0, .int 0, .int 0, .null, .int (-1), .ref q1, .ref q2, .ref q3, .ref q4, .ref q5, .null, .int 0])), (q1, .inl (cy 1, 64, .inl (fun _ => 0))), (q2, .inl (cy 1, 3, .inl (fun _ => 0))), (q3, .inl (cy 1, 9, .inl (fun _ => 0))), (q4, .inl (cy 1, 9, .inl (fun _ => 0))), (q5, .inl (cy 1, 9, .inl (fun _ => 0)))] := hD
  refine lv_aload_n hx hb dX2_init_53 rfl (lv_at hl 0 rfl) ?_
  refine lv_bipush (v := 9) hx hb dX2_init_54 (by decide) ?_
  refine va_newa (atype := .int) (n := 9) (a0 := (9, .inl (fun _ => 0))) (ty := .int) hx hb (hT _ t_254) rfl hK hP hD hS hA (fun _ => rfl) (by decide) (by decide) (by decide) (Nat.le_of_ble_eq_true rfl) (Nat.le_of_ble_eq_true rfl) dX2_init_56 (fun q6 cA H hK9 hP hD hS => ?_)
  obtain rfl := ty_same hK9 1 6 rfl rfl
  clear hK9
  have hP : va_P D vwCl [(h0, .inr (3, [.int 0, .int 0, .int 0, .int 0, .int 0, .int 0, .null, .int (-1), .ref q1, .ref q2, .ref q3, .ref q4, .ref q5, .null, .int 0])), (q1, .inl (cy 1, 64, .inl (fun _ => 0))), (q2, .inl (cy 1, 3, .inl (fun _ => 0))), (q3, .inl (cy 1, 9, .inl (fun _ => 0))), (q4, .inl (cy 1, 9, .inl (fun _ => 0))), (q5, .inl (cy 1, 9, .inl (fun _ => 0))), (q6, .inl (cy 1, 9, .inl (fun _ => 0)))] H := hP
  have hD : va_D A [(h0, .inr (3, [.int 0, .int 0, .int 0, .int 0, .int 0, .int 0, .null, .int (-1), .ref q1, .ref q2, .ref q3, .ref q4, .ref q5, .null, .int 0])), (q1, .inl (cy 1, 64, .inl (fun _ => 0))), (q2, .inl (cy 1, 3, .inl (fun _ => 0))), (q3, .inl (cy 1, 9, .inl (fun _ => 0))), (q4, .inl (cy 1, 9, .inl (fun _ => 0))), (q5, .inl (cy 1, 9, .inl (fun _ => 0))), (q6, .inl (cy 1, 9, .inl (fun _ => 0)))] := hD
  refine va_putF (D := D) (ci := 3) (v := .ref q6) (ty := .array .int) (C := RX2) (T := TX2) (N := 15) hx hb hT i_TX2 tyX2 tyX2_ok nmX2 hown hK hP hD hS 0 rfl rfl 13 (by decide) (hT _ t_435) (fun _ h9 => h9) rfl hin rfl (by decide +kernel) rfl rfl (Nat.le_of_ble_eq_true rfl) dX2_init_58 (fun H locs hP hD hS => ?_)
  have hP : va_P D vwCl [(h0, .inr (3, [.int 0, .int 0, .int 0, .int 0, .int 0, .int 0, .null, .int (-1), .ref q1, .ref q2, .ref q3, .ref q4, .ref q5, .ref q6, .int 0])), (q1, .inl (cy 1, 64, .inl (fun _ => 0))), (q2, .inl (cy 1, 3, .inl (fun _ => 0))), (q3, .inl (cy 1, 9, .inl (fun _ => 0))), (q4, .inl (cy 1, 9, .inl (fun _ => 0))), (q5, .inl (cy 1, 9, .inl (fun _ => 0))), (q6, .inl (cy 1, 9, .inl (fun _ => 0)))] H := hP
  have hD : va_D A [(h0, .inr (3, [.int 0, .int 0, .int 0, .int 0, .int 0, .int 0, .null, .int (-1), .ref q1, .ref q2, .ref q3, .ref q4, .ref q5, .ref q6, .int 0])), (q1, .inl (cy 1, 64, .inl (fun _ => 0))), (q2, .inl (cy 1, 3, .inl (fun _ => 0))), (q3, .inl (cy 1, 9, .inl (fun _ => 0))), (q4, .inl (cy 1, 9, .inl (fun _ => 0))), (q5, .inl (cy 1, 9, .inl (fun _ => 0))), (q6, .inl (cy 1, 9, .inl (fun _ => 0)))] := hD
  refine lv_aload_n hx hb dX2_init_61 rfl (lv_at hl 0 rfl) ?_
  refine lv_iconst (v := 0) hx hb dX2_init_62 (by decide) ?_
  refine va_put (D := D) (ci := 3) (v := .int 0) (ty := .int) (C := RX2) (T := TX2) (N := 15) hx hb hT i_TX2 tyX2 tyX2_ok nmX2 hown hK hP hD hS 0 rfl rfl 14 (by decide) (hT _ t_436) (fun _ h9 => h9) rfl (by decide +kernel) rfl rfl (Nat.le_of_ble_eq_true rfl) dX2_init_63 (fun H locs hP hD hS => ?_)
  have hP : va_P D vwCl [(h0, .inr (3, [.int 0, .int 0, .int 0, .int 0, .int 0, .int 0, .null, .int (-1), .ref q1, .ref q2, .ref q3, .ref q4, .ref q5, .ref q6, .int 0])), (q1, .inl (cy 1, 64, .inl (fun _ => 0))), (q2, .inl (cy 1, 3, .inl (fun _ => 0))), (q3, .inl (cy 1, 9, .inl (fun _ => 0))), (q4, .inl (cy 1, 9, .inl (fun _ => 0))), (q5, .inl (cy 1, 9, .inl (fun _ => 0))), (q6, .inl (cy 1, 9, .inl (fun _ => 0)))] H := hP
  have hD : va_D A [(h0, .inr (3, [.int 0, .int 0, .int 0, .int 0, .int 0, .int 0, .null, .int (-1), .ref q1, .ref q2, .ref q3, .ref q4, .ref q5, .ref q6, .int 0])), (q1, .inl (cy 1, 64, .inl (fun _ => 0))), (q2, .inl (cy 1, 3, .inl (fun _ => 0))), (q3, .inl (cy 1, 9, .inl (fun _ => 0))), (q4, .inl (cy 1, 9, .inl (fun _ => 0))), (q5, .inl (cy 1, 9, .inl (fun _ => 0))), (q6, .inl (cy 1, 9, .inl (fun _ => 0)))] := hD
  have hP9 := hP.sub (ws' := [(h0, .inr (3, [.int 0, .int 0, .int 0, .int 0, .int 0, .int 0, .null, .int (-1), .ref q1, .ref q2, .ref q3, .ref q4, .ref q5, .ref q6, .int 0]))]) [0] rfl
  have hD9 := hD.sub (ws' := [(h0, .inr (3, [.int 0, .int 0, .int 0, .int 0, .int 0, .int 0, .null, .int (-1), .ref q1, .ref q2, .ref q3, .ref q4, .ref q5, .ref q6, .int 0]))]) [0] (by decide) rfl
  refine W.widen (k := 6) (n := 103) (Nat.le_of_ble_eq_true rfl) (Nat.le_of_ble_eq_true rfl) ?_
  exact W.vret hx hb hr (fun t ht hW => ⟨⟨(q1, q2, q3, q4, q5, q6), rfl, trivial, by rw [ht]; exact hP9, hD9⟩, hS.F ht⟩) hS.2.2 dX2_init_66
end
