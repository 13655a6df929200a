section
-- ===== PART A: goes FIRST, ahead of the names: the tables' words, and 'selects' of the private methods out of them =====
/-- a private method of a class that the tables say can be made, by its rows of tables_1 -/
def lw_okq (q : MethodName × Nat) : Prop := (q.1.cls ≠ "java/lang/invoke/MethodHandle" ∧ q.1.cls ≠ "java/lang/invoke/VarHandle") ∧ Cond.instantiable q.1.cls q.2 ∈ tables_1 ∧ Cond.privateMethod q.1 ∈ tables_1 ∧ Cond.instanceMethod q.1 ∈ tables_1
theorem lw_p0 : lw_okq (⟨"MakerStarts$Tokens", "goesOn", "(I)Z"⟩, 9) := ⟨⟨by decide +kernel, by decide +kernel⟩, List.mem_of_getElem? (i := 125) (by decide +kernel), List.mem_of_getElem? (i := 446) (by decide +kernel), List.mem_of_getElem? (i := 447) (by decide +kernel)⟩
theorem lw_p1 : lw_okq (⟨"MakerStarts$Tokens", "lengthen", "(I)V"⟩, 9) := ⟨⟨by decide +kernel, by decide +kernel⟩, List.mem_of_getElem? (i := 125) (by decide +kernel), List.mem_of_getElem? (i := 456) (by decide +kernel), List.mem_of_getElem? (i := 457) (by decide +kernel)⟩
theorem lw_p2 : lw_okq (⟨"MakerStarts$Tokens", "open", "(II)V"⟩, 9) := ⟨⟨by decide +kernel, by decide +kernel⟩, List.mem_of_getElem? (i := 125) (by decide +kernel), List.mem_of_getElem? (i := 461) (by decide +kernel), List.mem_of_getElem? (i := 462) (by decide +kernel)⟩
theorem lw_p3 : lw_okq (⟨"MakerStarts$Tokens", "findKeys", "()V"⟩, 9) := ⟨⟨by decide +kernel, by decide +kernel⟩, List.mem_of_getElem? (i := 125) (by decide +kernel), List.mem_of_getElem? (i := 525) (by decide +kernel), List.mem_of_getElem? (i := 526) (by decide +kernel)⟩
theorem lw_p4 : lw_okq (⟨"MakerStarts$Reader", "head", "()LMakerStarts$Type;"⟩, 3) := ⟨⟨by decide +kernel, by decide +kernel⟩, List.mem_of_getElem? (i := 119) (by decide +kernel), List.mem_of_getElem? (i := 537) (by decide +kernel), List.mem_of_getElem? (i := 538) (by decide +kernel)⟩
theorem lw_p5 : lw_okq (⟨"MakerStarts$Reader", "startsMember", "()Z"⟩, 3) := ⟨⟨by decide +kernel, by decide +kernel⟩, List.mem_of_getElem? (i := 119) (by decide +kernel), List.mem_of_getElem? (i := 640) (by decide +kernel), List.mem_of_getElem? (i := 641) (by decide +kernel)⟩
theorem lw_p6 : lw_okq (⟨"MakerStarts$Reader", "open", "(LMakerStarts$Type;)LMakerStarts$Member;"⟩, 3) := ⟨⟨by decide +kernel, by decide +kernel⟩, List.mem_of_getElem? (i := 119) (by decide +kernel), List.mem_of_getElem? (i := 648) (by decide +kernel), List.mem_of_getElem? (i := 649) (by decide +kernel)⟩
theorem lw_p7 : lw_okq (⟨"MakerStarts$Reader", "fieldMember", "(LMakerStarts$Member;)V"⟩, 3) := ⟨⟨by decide +kernel, by decide +kernel⟩, List.mem_of_getElem? (i := 119) (by decide +kernel), List.mem_of_getElem? (i := 770) (by decide +kernel), List.mem_of_getElem? (i := 771) (by decide +kernel)⟩
theorem lw_p8 : lw_okq (⟨"MakerStarts$Reader", "nameMember", "(LMakerStarts$Member;II)V"⟩, 3) := ⟨⟨by decide +kernel, by decide +kernel⟩, List.mem_of_getElem? (i := 119) (by decide +kernel), List.mem_of_getElem? (i := 774) (by decide +kernel), List.mem_of_getElem? (i := 775) (by decide +kernel)⟩
theorem lw_p9 : lw_okq (⟨"MakerStarts$Bodies", "term", "()V"⟩, 6) := ⟨⟨by decide +kernel, by decide +kernel⟩, List.mem_of_getElem? (i := 212) (by decide +kernel), List.mem_of_getElem? (i := 790) (by decide +kernel), List.mem_of_getElem? (i := 791) (by decide +kernel)⟩
theorem lw_p10 : lw_okq (⟨"MakerStarts$Bodies", "factor", "()V"⟩, 6) := ⟨⟨by decide +kernel, by decide +kernel⟩, List.mem_of_getElem? (i := 212) (by decide +kernel), List.mem_of_getElem? (i := 794) (by decide +kernel), List.mem_of_getElem? (i := 795) (by decide +kernel)⟩
theorem lw_p11 : lw_okq (⟨"MakerStarts$Bodies", "dot", "(LMakerStarts$Use;)V"⟩, 6) := ⟨⟨by decide +kernel, by decide +kernel⟩, List.mem_of_getElem? (i := 212) (by decide +kernel), List.mem_of_getElem? (i := 874) (by decide +kernel), List.mem_of_getElem? (i := 875) (by decide +kernel)⟩
theorem lw_p12 : lw_okq (⟨"MakerStarts$Bodies", "write", "(LMakerStarts$Use;)V"⟩, 6) := ⟨⟨by decide +kernel, by decide +kernel⟩, List.mem_of_getElem? (i := 212) (by decide +kernel), List.mem_of_getElem? (i := 878) (by decide +kernel), List.mem_of_getElem? (i := 879) (by decide +kernel)⟩
theorem lw_p13 : lw_okq (⟨"java/util/ArrayList", "add", "(Ljava/lang/Object;[Ljava/lang/Object;I)V"⟩, 3) := ⟨⟨by decide +kernel, by decide +kernel⟩, List.mem_of_getElem? (i := 49) (by decide +kernel), List.mem_of_getElem? (i := 886) (by decide +kernel), List.mem_of_getElem? (i := 887) (by decide +kernel)⟩
theorem lw_p14 : lw_okq (⟨"java/util/ArrayList", "grow", "()[Ljava/lang/Object;"⟩, 3) := ⟨⟨by decide +kernel, by decide +kernel⟩, List.mem_of_getElem? (i := 49) (by decide +kernel), List.mem_of_getElem? (i := 890) (by decide +kernel), List.mem_of_getElem? (i := 891) (by decide +kernel)⟩
theorem lw_p15 : lw_okq (⟨"java/util/ArrayList", "grow", "(I)[Ljava/lang/Object;"⟩, 3) := ⟨⟨by decide +kernel, by decide +kernel⟩, List.mem_of_getElem? (i := 49) (by decide +kernel), List.mem_of_getElem? (i := 894) (by decide +kernel), List.mem_of_getElem? (i := 895) (by decide +kernel)⟩
def lw_privs_1 : List (MethodName × Nat) := [(⟨"MakerStarts$Tokens", "goesOn", "(I)Z"⟩, 9), (⟨"MakerStarts$Tokens", "lengthen", "(I)V"⟩, 9), (⟨"MakerStarts$Tokens", "open", "(II)V"⟩, 9), (⟨"MakerStarts$Tokens", "findKeys", "()V"⟩, 9), (⟨"MakerStarts$Reader", "head", "()LMakerStarts$Type;"⟩, 3), (⟨"MakerStarts$Reader", "startsMember", "()Z"⟩, 3), (⟨"MakerStarts$Reader", "open", "(LMakerStarts$Type;)LMakerStarts$Member;"⟩, 3), (⟨"MakerStarts$Reader", "fieldMember", "(LMakerStarts$Member;)V"⟩, 3), (⟨"MakerStarts$Reader", "nameMember", "(LMakerStarts$Member;II)V"⟩, 3), (⟨"MakerStarts$Bodies", "term", "()V"⟩, 6), (⟨"MakerStarts$Bodies", "factor", "()V"⟩, 6), (⟨"MakerStarts$Bodies", "dot", "(LMakerStarts$Use;)V"⟩, 6), (⟨"MakerStarts$Bodies", "write", "(LMakerStarts$Use;)V"⟩, 6), (⟨"java/util/ArrayList", "add", "(Ljava/lang/Object;[Ljava/lang/Object;I)V"⟩, 3), (⟨"java/util/ArrayList", "grow", "()[Ljava/lang/Object;"⟩, 3), (⟨"java/util/ArrayList", "grow", "(I)[Ljava/lang/Object;"⟩, 3)]
theorem lw_r1 : ∀ q ∈ lw_privs_1, lw_okq q := List.forall_mem_cons.mpr ⟨lw_p0, List.forall_mem_cons.mpr ⟨lw_p1, List.forall_mem_cons.mpr ⟨lw_p2, List.forall_mem_cons.mpr ⟨lw_p3, List.forall_mem_cons.mpr ⟨lw_p4, List.forall_mem_cons.mpr ⟨lw_p5, List.forall_mem_cons.mpr ⟨lw_p6, List.forall_mem_cons.mpr ⟨lw_p7, List.forall_mem_cons.mpr ⟨lw_p8, List.forall_mem_cons.mpr ⟨lw_p9, List.forall_mem_cons.mpr ⟨lw_p10, List.forall_mem_cons.mpr ⟨lw_p11, List.forall_mem_cons.mpr ⟨lw_p12, List.forall_mem_cons.mpr ⟨lw_p13, List.forall_mem_cons.mpr ⟨lw_p14, List.forall_mem_cons.mpr ⟨lw_p15, fun _ h => absurd h List.not_mem_nil⟩⟩⟩⟩⟩⟩⟩⟩⟩⟩⟩⟩⟩⟩⟩⟩
theorem lw_p16 : lw_okq (⟨"MakerStarts$Bodies", "opens", "(I)Z"⟩, 6) := ⟨⟨by decide +kernel, by decide +kernel⟩, List.mem_of_getElem? (i := 212) (by decide +kernel), List.mem_of_getElem? (i := 940) (by decide +kernel), List.mem_of_getElem? (i := 941) (by decide +kernel)⟩
theorem lw_p17 : lw_okq (⟨"MakerStarts$Reader", "blockMember", "(LMakerStarts$Member;)V"⟩, 3) := ⟨⟨by decide +kernel, by decide +kernel⟩, List.mem_of_getElem? (i := 119) (by decide +kernel), List.mem_of_getElem? (i := 957) (by decide +kernel), List.mem_of_getElem? (i := 958) (by decide +kernel)⟩
theorem lw_p18 : lw_okq (⟨"MakerStarts$Bodies", "startsStatement", "()Z"⟩, 6) := ⟨⟨by decide +kernel, by decide +kernel⟩, List.mem_of_getElem? (i := 212) (by decide +kernel), List.mem_of_getElem? (i := 974) (by decide +kernel), List.mem_of_getElem? (i := 975) (by decide +kernel)⟩
theorem lw_p19 : lw_okq (⟨"MakerStarts$Bodies", "statement", "()V"⟩, 6) := ⟨⟨by decide +kernel, by decide +kernel⟩, List.mem_of_getElem? (i := 212) (by decide +kernel), List.mem_of_getElem? (i := 978) (by decide +kernel), List.mem_of_getElem? (i := 979) (by decide +kernel)⟩
theorem lw_p20 : lw_okq (⟨"MakerStarts$Bodies", "tryStatement", "()V"⟩, 6) := ⟨⟨by decide +kernel, by decide +kernel⟩, List.mem_of_getElem? (i := 212) (by decide +kernel), List.mem_of_getElem? (i := 982) (by decide +kernel), List.mem_of_getElem? (i := 983) (by decide +kernel)⟩
theorem lw_p21 : lw_okq (⟨"MakerStarts$Bodies", "catchPart", "(I)V"⟩, 6) := ⟨⟨by decide +kernel, by decide +kernel⟩, List.mem_of_getElem? (i := 212) (by decide +kernel), List.mem_of_getElem? (i := 987) (by decide +kernel), List.mem_of_getElem? (i := 988) (by decide +kernel)⟩
theorem lw_p22 : lw_okq (⟨"MakerStarts$Bodies", "ifStatement", "()V"⟩, 6) := ⟨⟨by decide +kernel, by decide +kernel⟩, List.mem_of_getElem? (i := 212) (by decide +kernel), List.mem_of_getElem? (i := 1000) (by decide +kernel), List.mem_of_getElem? (i := 1001) (by decide +kernel)⟩
theorem lw_p23 : lw_okq (⟨"MakerStarts$Bodies", "setStatement", "()V"⟩, 6) := ⟨⟨by decide +kernel, by decide +kernel⟩, List.mem_of_getElem? (i := 212) (by decide +kernel), List.mem_of_getElem? (i := 1004) (by decide +kernel), List.mem_of_getElem? (i := 1005) (by decide +kernel)⟩
theorem lw_p24 : lw_okq (⟨"MakerStarts$Bodies", "plainStatement", "()V"⟩, 6) := ⟨⟨by decide +kernel, by decide +kernel⟩, List.mem_of_getElem? (i := 212) (by decide +kernel), List.mem_of_getElem? (i := 1008) (by decide +kernel), List.mem_of_getElem? (i := 1009) (by decide +kernel)⟩
theorem lw_p25 : lw_okq (⟨"MakerStarts$Reader", "constMember", "(LMakerStarts$Member;)V"⟩, 3) := ⟨⟨by decide +kernel, by decide +kernel⟩, List.mem_of_getElem? (i := 119) (by decide +kernel), List.mem_of_getElem? (i := 1021) (by decide +kernel), List.mem_of_getElem? (i := 1022) (by decide +kernel)⟩
theorem lw_p26 : lw_okq (⟨"MakerStarts$Reader", "actMember", "(LMakerStarts$Member;)V"⟩, 3) := ⟨⟨by decide +kernel, by decide +kernel⟩, List.mem_of_getElem? (i := 119) (by decide +kernel), List.mem_of_getElem? (i := 1025) (by decide +kernel), List.mem_of_getElem? (i := 1026) (by decide +kernel)⟩
theorem lw_p27 : lw_okq (⟨"MakerStarts$Reader", "makerMember", "(LMakerStarts$Member;)V"⟩, 3) := ⟨⟨by decide +kernel, by decide +kernel⟩, List.mem_of_getElem? (i := 119) (by decide +kernel), List.mem_of_getElem? (i := 1029) (by decide +kernel), List.mem_of_getElem? (i := 1030) (by decide +kernel)⟩
theorem lw_p28 : lw_okq (⟨"MakerStarts$Reader", "parameters", "(LMakerStarts$Member;)V"⟩, 3) := ⟨⟨by decide +kernel, by decide +kernel⟩, List.mem_of_getElem? (i := 119) (by decide +kernel), List.mem_of_getElem? (i := 1033) (by decide +kernel), List.mem_of_getElem? (i := 1034) (by decide +kernel)⟩
theorem lw_p29 : lw_okq (⟨"MakerStarts$Reader", "failures", "(LMakerStarts$Member;)V"⟩, 3) := ⟨⟨by decide +kernel, by decide +kernel⟩, List.mem_of_getElem? (i := 119) (by decide +kernel), List.mem_of_getElem? (i := 1045) (by decide +kernel), List.mem_of_getElem? (i := 1046) (by decide +kernel)⟩
theorem lw_p30 : lw_okq (⟨"MakerStarts$Reader", "otherMaker", "(LMakerStarts$Member;)V"⟩, 3) := ⟨⟨by decide +kernel, by decide +kernel⟩, List.mem_of_getElem? (i := 119) (by decide +kernel), List.mem_of_getElem? (i := 1058) (by decide +kernel), List.mem_of_getElem? (i := 1059) (by decide +kernel)⟩
theorem lw_p31 : lw_okq (⟨"MakerStarts$Flow", "judgeMember", "(LMakerStarts$Member;)I"⟩, 4) := ⟨⟨by decide +kernel, by decide +kernel⟩, List.mem_of_getElem? (i := 247) (by decide +kernel), List.mem_of_getElem? (i := 1146) (by decide +kernel), List.mem_of_getElem? (i := 1147) (by decide +kernel)⟩
def lw_privs_2 : List (MethodName × Nat) := [(⟨"MakerStarts$Bodies", "opens", "(I)Z"⟩, 6), (⟨"MakerStarts$Reader", "blockMember", "(LMakerStarts$Member;)V"⟩, 3), (⟨"MakerStarts$Bodies", "startsStatement", "()Z"⟩, 6), (⟨"MakerStarts$Bodies", "statement", "()V"⟩, 6), (⟨"MakerStarts$Bodies", "tryStatement", "()V"⟩, 6), (⟨"MakerStarts$Bodies", "catchPart", "(I)V"⟩, 6), (⟨"MakerStarts$Bodies", "ifStatement", "()V"⟩, 6), (⟨"MakerStarts$Bodies", "setStatement", "()V"⟩, 6), (⟨"MakerStarts$Bodies", "plainStatement", "()V"⟩, 6), (⟨"MakerStarts$Reader", "constMember", "(LMakerStarts$Member;)V"⟩, 3), (⟨"MakerStarts$Reader", "actMember", "(LMakerStarts$Member;)V"⟩, 3), (⟨"MakerStarts$Reader", "makerMember", "(LMakerStarts$Member;)V"⟩, 3), (⟨"MakerStarts$Reader", "parameters", "(LMakerStarts$Member;)V"⟩, 3), (⟨"MakerStarts$Reader", "failures", "(LMakerStarts$Member;)V"⟩, 3), (⟨"MakerStarts$Reader", "otherMaker", "(LMakerStarts$Member;)V"⟩, 3), (⟨"MakerStarts$Flow", "judgeMember", "(LMakerStarts$Member;)I"⟩, 4)]
theorem lw_r2 : ∀ q ∈ lw_privs_2, lw_okq q := List.forall_mem_cons.mpr ⟨lw_p16, List.forall_mem_cons.mpr ⟨lw_p17, List.forall_mem_cons.mpr ⟨lw_p18, List.forall_mem_cons.mpr ⟨lw_p19, List.forall_mem_cons.mpr ⟨lw_p20, List.forall_mem_cons.mpr ⟨lw_p21, List.forall_mem_cons.mpr ⟨lw_p22, List.forall_mem_cons.mpr ⟨lw_p23, List.forall_mem_cons.mpr ⟨lw_p24, List.forall_mem_cons.mpr ⟨lw_p25, List.forall_mem_cons.mpr ⟨lw_p26, List.forall_mem_cons.mpr ⟨lw_p27, List.forall_mem_cons.mpr ⟨lw_p28, List.forall_mem_cons.mpr ⟨lw_p29, List.forall_mem_cons.mpr ⟨lw_p30, List.forall_mem_cons.mpr ⟨lw_p31, fun _ h => absurd h List.not_mem_nil⟩⟩⟩⟩⟩⟩⟩⟩⟩⟩⟩⟩⟩⟩⟩⟩
theorem lw_p32 : lw_okq (⟨"MakerStarts$Flow", "follow", "(I)V"⟩, 4) := ⟨⟨by decide +kernel, by decide +kernel⟩, List.mem_of_getElem? (i := 247) (by decide +kernel), List.mem_of_getElem? (i := 1150) (by decide +kernel), List.mem_of_getElem? (i := 1151) (by decide +kernel)⟩
theorem lw_p33 : lw_okq (⟨"MakerStarts$Flow", "close", "(I)V"⟩, 4) := ⟨⟨by decide +kernel, by decide +kernel⟩, List.mem_of_getElem? (i := 247) (by decide +kernel), List.mem_of_getElem? (i := 1158) (by decide +kernel), List.mem_of_getElem? (i := 1159) (by decide +kernel)⟩
theorem lw_p34 : lw_okq (⟨"MakerStarts$Flow", "meet", "(III)V"⟩, 4) := ⟨⟨by decide +kernel, by decide +kernel⟩, List.mem_of_getElem? (i := 247) (by decide +kernel), List.mem_of_getElem? (i := 1162) (by decide +kernel), List.mem_of_getElem? (i := 1163) (by decide +kernel)⟩
theorem lw_p35 : lw_okq (⟨"MakerStarts$Flow", "judgeMaker", "(LMakerStarts$Member;I)V"⟩, 4) := ⟨⟨by decide +kernel, by decide +kernel⟩, List.mem_of_getElem? (i := 247) (by decide +kernel), List.mem_of_getElem? (i := 1174) (by decide +kernel), List.mem_of_getElem? (i := 1175) (by decide +kernel)⟩
theorem lw_p36 : lw_okq (⟨"MakerStarts$Text", "orderMembers", "(LMakerStarts$Type;Z)V"⟩, 9) := ⟨⟨by decide +kernel, by decide +kernel⟩, List.mem_of_getElem? (i := 41) (by decide +kernel), List.mem_of_getElem? (i := 1203) (by decide +kernel), List.mem_of_getElem? (i := 1204) (by decide +kernel)⟩
theorem lw_p37 : lw_okq (⟨"MakerStarts$Text", "orderMaker", "(LMakerStarts$Type;LMakerStarts$Member;)V"⟩, 9) := ⟨⟨by decide +kernel, by decide +kernel⟩, List.mem_of_getElem? (i := 41) (by decide +kernel), List.mem_of_getElem? (i := 1210) (by decide +kernel), List.mem_of_getElem? (i := 1211) (by decide +kernel)⟩
theorem lw_p38 : lw_okq (⟨"MakerStarts$Machine", "clear", "()V"⟩, 20) := ⟨⟨by decide +kernel, by decide +kernel⟩, List.mem_of_getElem? (i := 267) (by decide +kernel), List.mem_of_getElem? (i := 1226) (by decide +kernel), List.mem_of_getElem? (i := 1227) (by decide +kernel)⟩
theorem lw_p39 : lw_okq (⟨"MakerStarts$Machine", "go", "(I)V"⟩, 20) := ⟨⟨by decide +kernel, by decide +kernel⟩, List.mem_of_getElem? (i := 267) (by decide +kernel), List.mem_of_getElem? (i := 1234) (by decide +kernel), List.mem_of_getElem? (i := 1235) (by decide +kernel)⟩
theorem lw_p40 : lw_okq (⟨"MakerStarts$Machine", "turn", "()V"⟩, 20) := ⟨⟨by decide +kernel, by decide +kernel⟩, List.mem_of_getElem? (i := 267) (by decide +kernel), List.mem_of_getElem? (i := 1239) (by decide +kernel), List.mem_of_getElem? (i := 1240) (by decide +kernel)⟩
theorem lw_p41 : lw_okq (⟨"MakerStarts$Machine", "next", "()I"⟩, 20) := ⟨⟨by decide +kernel, by decide +kernel⟩, List.mem_of_getElem? (i := 267) (by decide +kernel), List.mem_of_getElem? (i := 1243) (by decide +kernel), List.mem_of_getElem? (i := 1244) (by decide +kernel)⟩
theorem lw_p42 : lw_okq (⟨"MakerStarts$Machine", "push", "(I)V"⟩, 20) := ⟨⟨by decide +kernel, by decide +kernel⟩, List.mem_of_getElem? (i := 267) (by decide +kernel), List.mem_of_getElem? (i := 1251) (by decide +kernel), List.mem_of_getElem? (i := 1252) (by decide +kernel)⟩
theorem lw_p43 : lw_okq (⟨"MakerStarts$Machine", "pop", "()I"⟩, 20) := ⟨⟨by decide +kernel, by decide +kernel⟩, List.mem_of_getElem? (i := 267) (by decide +kernel), List.mem_of_getElem? (i := 1255) (by decide +kernel), List.mem_of_getElem? (i := 1256) (by decide +kernel)⟩
theorem lw_p44 : lw_okq (⟨"MakerStarts$Machine", "compute", "(I)V"⟩, 20) := ⟨⟨by decide +kernel, by decide +kernel⟩, List.mem_of_getElem? (i := 267) (by decide +kernel), List.mem_of_getElem? (i := 1259) (by decide +kernel), List.mem_of_getElem? (i := 1260) (by decide +kernel)⟩
theorem lw_p45 : lw_okq (⟨"MakerStarts$Machine", "divide", "(III)V"⟩, 20) := ⟨⟨by decide +kernel, by decide +kernel⟩, List.mem_of_getElem? (i := 267) (by decide +kernel), List.mem_of_getElem? (i := 1263) (by decide +kernel), List.mem_of_getElem? (i := 1264) (by decide +kernel)⟩
theorem lw_p46 : lw_okq (⟨"MakerStarts$Machine", "leaveWith", "(II)V"⟩, 20) := ⟨⟨by decide +kernel, by decide +kernel⟩, List.mem_of_getElem? (i := 267) (by decide +kernel), List.mem_of_getElem? (i := 1267) (by decide +kernel), List.mem_of_getElem? (i := 1268) (by decide +kernel)⟩
theorem lw_p47 : lw_okq (⟨"MakerStarts$Machine", "get", "(II)V"⟩, 20) := ⟨⟨by decide +kernel, by decide +kernel⟩, List.mem_of_getElem? (i := 267) (by decide +kernel), List.mem_of_getElem? (i := 1271) (by decide +kernel), List.mem_of_getElem? (i := 1272) (by decide +kernel)⟩
def lw_privs_3 : List (MethodName × Nat) := [(⟨"MakerStarts$Flow", "follow", "(I)V"⟩, 4), (⟨"MakerStarts$Flow", "close", "(I)V"⟩, 4), (⟨"MakerStarts$Flow", "meet", "(III)V"⟩, 4), (⟨"MakerStarts$Flow", "judgeMaker", "(LMakerStarts$Member;I)V"⟩, 4), (⟨"MakerStarts$Text", "orderMembers", "(LMakerStarts$Type;Z)V"⟩, 9), (⟨"MakerStarts$Text", "orderMaker", "(LMakerStarts$Type;LMakerStarts$Member;)V"⟩, 9), (⟨"MakerStarts$Machine", "clear", "()V"⟩, 20), (⟨"MakerStarts$Machine", "go", "(I)V"⟩, 20), (⟨"MakerStarts$Machine", "turn", "()V"⟩, 20), (⟨"MakerStarts$Machine", "next", "()I"⟩, 20), (⟨"MakerStarts$Machine", "push", "(I)V"⟩, 20), (⟨"MakerStarts$Machine", "pop", "()I"⟩, 20), (⟨"MakerStarts$Machine", "compute", "(I)V"⟩, 20), (⟨"MakerStarts$Machine", "divide", "(III)V"⟩, 20), (⟨"MakerStarts$Machine", "leaveWith", "(II)V"⟩, 20), (⟨"MakerStarts$Machine", "get", "(II)V"⟩, 20)]
theorem lw_r3 : ∀ q ∈ lw_privs_3, lw_okq q := List.forall_mem_cons.mpr ⟨lw_p32, List.forall_mem_cons.mpr ⟨lw_p33, List.forall_mem_cons.mpr ⟨lw_p34, List.forall_mem_cons.mpr ⟨lw_p35, List.forall_mem_cons.mpr ⟨lw_p36, List.forall_mem_cons.mpr ⟨lw_p37, List.forall_mem_cons.mpr ⟨lw_p38, List.forall_mem_cons.mpr ⟨lw_p39, List.forall_mem_cons.mpr ⟨lw_p40, List.forall_mem_cons.mpr ⟨lw_p41, List.forall_mem_cons.mpr ⟨lw_p42, List.forall_mem_cons.mpr ⟨lw_p43, List.forall_mem_cons.mpr ⟨lw_p44, List.forall_mem_cons.mpr ⟨lw_p45, List.forall_mem_cons.mpr ⟨lw_p46, List.forall_mem_cons.mpr ⟨lw_p47, fun _ h => absurd h List.not_mem_nil⟩⟩⟩⟩⟩⟩⟩⟩⟩⟩⟩⟩⟩⟩⟩⟩
theorem lw_p48 : lw_okq (⟨"MakerStarts$Machine", "isReady", "(I)Z"⟩, 20) := ⟨⟨by decide +kernel, by decide +kernel⟩, List.mem_of_getElem? (i := 267) (by decide +kernel), List.mem_of_getElem? (i := 1275) (by decide +kernel), List.mem_of_getElem? (i := 1276) (by decide +kernel)⟩
theorem lw_p49 : lw_okq (⟨"MakerStarts$Machine", "enter", "(III)V"⟩, 20) := ⟨⟨by decide +kernel, by decide +kernel⟩, List.mem_of_getElem? (i := 267) (by decide +kernel), List.mem_of_getElem? (i := 1280) (by decide +kernel), List.mem_of_getElem? (i := 1281) (by decide +kernel)⟩
theorem lw_p50 : lw_okq (⟨"MakerStarts$Machine", "spend", "()V"⟩, 20) := ⟨⟨by decide +kernel, by decide +kernel⟩, List.mem_of_getElem? (i := 267) (by decide +kernel), List.mem_of_getElem? (i := 1284) (by decide +kernel), List.mem_of_getElem? (i := 1285) (by decide +kernel)⟩
theorem lw_p51 : lw_okq (⟨"MakerStarts$Machine", "set", "(II)V"⟩, 20) := ⟨⟨by decide +kernel, by decide +kernel⟩, List.mem_of_getElem? (i := 267) (by decide +kernel), List.mem_of_getElem? (i := 1288) (by decide +kernel), List.mem_of_getElem? (i := 1289) (by decide +kernel)⟩
theorem lw_p52 : lw_okq (⟨"MakerStarts$Machine", "callAct", "(I)V"⟩, 20) := ⟨⟨by decide +kernel, by decide +kernel⟩, List.mem_of_getElem? (i := 267) (by decide +kernel), List.mem_of_getElem? (i := 1292) (by decide +kernel), List.mem_of_getElem? (i := 1293) (by decide +kernel)⟩
theorem lw_p53 : lw_okq (⟨"MakerStarts$Machine", "countStep", "()V"⟩, 20) := ⟨⟨by decide +kernel, by decide +kernel⟩, List.mem_of_getElem? (i := 267) (by decide +kernel), List.mem_of_getElem? (i := 1297) (by decide +kernel), List.mem_of_getElem? (i := 1298) (by decide +kernel)⟩
theorem lw_p54 : lw_okq (⟨"MakerStarts$Machine", "callNew", "(I)V"⟩, 20) := ⟨⟨by decide +kernel, by decide +kernel⟩, List.mem_of_getElem? (i := 267) (by decide +kernel), List.mem_of_getElem? (i := 1301) (by decide +kernel), List.mem_of_getElem? (i := 1302) (by decide +kernel)⟩
theorem lw_p55 : lw_okq (⟨"MakerStarts$Machine", "callMaker", "(LMakerStarts$Member;LMakerStarts$Frame;)V"⟩, 20) := ⟨⟨by decide +kernel, by decide +kernel⟩, List.mem_of_getElem? (i := 267) (by decide +kernel), List.mem_of_getElem? (i := 1309) (by decide +kernel), List.mem_of_getElem? (i := 1310) (by decide +kernel)⟩
theorem lw_p56 : lw_okq (⟨"MakerStarts$Machine", "steer", "(I)V"⟩, 20) := ⟨⟨by decide +kernel, by decide +kernel⟩, List.mem_of_getElem? (i := 267) (by decide +kernel), List.mem_of_getElem? (i := 1313) (by decide +kernel), List.mem_of_getElem? (i := 1314) (by decide +kernel)⟩
theorem lw_p57 : lw_okq (⟨"MakerStarts$Machine", "keepMark", "(I)V"⟩, 20) := ⟨⟨by decide +kernel, by decide +kernel⟩, List.mem_of_getElem? (i := 267) (by decide +kernel), List.mem_of_getElem? (i := 1317) (by decide +kernel), List.mem_of_getElem? (i := 1318) (by decide +kernel)⟩
theorem lw_p58 : lw_okq (⟨"MakerStarts$Machine", "test", "(I)V"⟩, 20) := ⟨⟨by decide +kernel, by decide +kernel⟩, List.mem_of_getElem? (i := 267) (by decide +kernel), List.mem_of_getElem? (i := 1321) (by decide +kernel), List.mem_of_getElem? (i := 1322) (by decide +kernel)⟩
theorem lw_p59 : lw_okq (⟨"MakerStarts$Machine", "endPart", "()V"⟩, 20) := ⟨⟨by decide +kernel, by decide +kernel⟩, List.mem_of_getElem? (i := 267) (by decide +kernel), List.mem_of_getElem? (i := 1329) (by decide +kernel), List.mem_of_getElem? (i := 1330) (by decide +kernel)⟩
theorem lw_p60 : lw_okq (⟨"MakerStarts$Machine", "goesToFinally", "()Z"⟩, 20) := ⟨⟨by decide +kernel, by decide +kernel⟩, List.mem_of_getElem? (i := 267) (by decide +kernel), List.mem_of_getElem? (i := 1333) (by decide +kernel), List.mem_of_getElem? (i := 1334) (by decide +kernel)⟩
theorem lw_p61 : lw_okq (⟨"MakerStarts$Machine", "done", "()V"⟩, 20) := ⟨⟨by decide +kernel, by decide +kernel⟩, List.mem_of_getElem? (i := 267) (by decide +kernel), List.mem_of_getElem? (i := 1361) (by decide +kernel), List.mem_of_getElem? (i := 1362) (by decide +kernel)⟩
theorem lw_p62 : lw_okq (⟨"MakerStarts$Machine", "settle", "(I)V"⟩, 20) := ⟨⟨by decide +kernel, by decide +kernel⟩, List.mem_of_getElem? (i := 267) (by decide +kernel), List.mem_of_getElem? (i := 1365) (by decide +kernel), List.mem_of_getElem? (i := 1366) (by decide +kernel)⟩
theorem lw_p63 : lw_okq (⟨"MakerStarts$Machine", "drop", "()V"⟩, 20) := ⟨⟨by decide +kernel, by decide +kernel⟩, List.mem_of_getElem? (i := 267) (by decide +kernel), List.mem_of_getElem? (i := 1369) (by decide +kernel), List.mem_of_getElem? (i := 1370) (by decide +kernel)⟩
def lw_privs_4 : List (MethodName × Nat) := [(⟨"MakerStarts$Machine", "isReady", "(I)Z"⟩, 20), (⟨"MakerStarts$Machine", "enter", "(III)V"⟩, 20), (⟨"MakerStarts$Machine", "spend", "()V"⟩, 20), (⟨"MakerStarts$Machine", "set", "(II)V"⟩, 20), (⟨"MakerStarts$Machine", "callAct", "(I)V"⟩, 20), (⟨"MakerStarts$Machine", "countStep", "()V"⟩, 20), (⟨"MakerStarts$Machine", "callNew", "(I)V"⟩, 20), (⟨"MakerStarts$Machine", "callMaker", "(LMakerStarts$Member;LMakerStarts$Frame;)V"⟩, 20), (⟨"MakerStarts$Machine", "steer", "(I)V"⟩, 20), (⟨"MakerStarts$Machine", "keepMark", "(I)V"⟩, 20), (⟨"MakerStarts$Machine", "test", "(I)V"⟩, 20), (⟨"MakerStarts$Machine", "endPart", "()V"⟩, 20), (⟨"MakerStarts$Machine", "goesToFinally", "()Z"⟩, 20), (⟨"MakerStarts$Machine", "done", "()V"⟩, 20), (⟨"MakerStarts$Machine", "settle", "(I)V"⟩, 20), (⟨"MakerStarts$Machine", "drop", "()V"⟩, 20)]
theorem lw_r4 : ∀ q ∈ lw_privs_4, lw_okq q := List.forall_mem_cons.mpr ⟨lw_p48, List.forall_mem_cons.mpr ⟨lw_p49, List.forall_mem_cons.mpr ⟨lw_p50, List.forall_mem_cons.mpr ⟨lw_p51, List.forall_mem_cons.mpr ⟨lw_p52, List.forall_mem_cons.mpr ⟨lw_p53, List.forall_mem_cons.mpr ⟨lw_p54, List.forall_mem_cons.mpr ⟨lw_p55, List.forall_mem_cons.mpr ⟨lw_p56, List.forall_mem_cons.mpr ⟨lw_p57, List.forall_mem_cons.mpr ⟨lw_p58, List.forall_mem_cons.mpr ⟨lw_p59, List.forall_mem_cons.mpr ⟨lw_p60, List.forall_mem_cons.mpr ⟨lw_p61, List.forall_mem_cons.mpr ⟨lw_p62, List.forall_mem_cons.mpr ⟨lw_p63, fun _ h => absurd h List.not_mem_nil⟩⟩⟩⟩⟩⟩⟩⟩⟩⟩⟩⟩⟩⟩⟩⟩
theorem lw_p64 : lw_okq (⟨"MakerStarts$Machine", "leaveTry", "()V"⟩, 20) := ⟨⟨by decide +kernel, by decide +kernel⟩, List.mem_of_getElem? (i := 267) (by decide +kernel), List.mem_of_getElem? (i := 1377) (by decide +kernel), List.mem_of_getElem? (i := 1378) (by decide +kernel)⟩
theorem lw_p65 : lw_okq (⟨"MakerStarts$Machine", "leaveFrame", "()V"⟩, 20) := ⟨⟨by decide +kernel, by decide +kernel⟩, List.mem_of_getElem? (i := 267) (by decide +kernel), List.mem_of_getElem? (i := 1385) (by decide +kernel), List.mem_of_getElem? (i := 1386) (by decide +kernel)⟩
theorem lw_p66 : lw_okq (⟨"java/lang/Throwable", "fillInStackTrace", "(I)Ljava/lang/Throwable;"⟩, 6) := ⟨⟨by decide +kernel, by decide +kernel⟩, List.mem_of_getElem? (i := 1472) (by decide +kernel), List.mem_of_getElem? (i := 1470) (by decide +kernel), List.mem_of_getElem? (i := 1471) (by decide +kernel)⟩
theorem lw_p67 : lw_okq (⟨"MakerStartsModel", "next", "()V"⟩, 74) := ⟨⟨by decide +kernel, by decide +kernel⟩, List.mem_of_getElem? (i := 1554) (by decide +kernel), List.mem_of_getElem? (i := 1811) (by decide +kernel), List.mem_of_getElem? (i := 1812) (by decide +kernel)⟩
theorem lw_p68 : lw_okq (⟨"MakerStartsModel", "isSmall", "(I)Z"⟩, 74) := ⟨⟨by decide +kernel, by decide +kernel⟩, List.mem_of_getElem? (i := 1554) (by decide +kernel), List.mem_of_getElem? (i := 1815) (by decide +kernel), List.mem_of_getElem? (i := 1816) (by decide +kernel)⟩
theorem lw_p69 : lw_okq (⟨"MakerStartsModel", "isDigit", "(I)Z"⟩, 74) := ⟨⟨by decide +kernel, by decide +kernel⟩, List.mem_of_getElem? (i := 1554) (by decide +kernel), List.mem_of_getElem? (i := 1819) (by decide +kernel), List.mem_of_getElem? (i := 1820) (by decide +kernel)⟩
theorem lw_p70 : lw_okq (⟨"MakerStartsModel", "word", "()V"⟩, 74) := ⟨⟨by decide +kernel, by decide +kernel⟩, List.mem_of_getElem? (i := 1554) (by decide +kernel), List.mem_of_getElem? (i := 1823) (by decide +kernel), List.mem_of_getElem? (i := 1824) (by decide +kernel)⟩
theorem lw_p71 : lw_okq (⟨"MakerStartsModel", "readType", "()V"⟩, 74) := ⟨⟨by decide +kernel, by decide +kernel⟩, List.mem_of_getElem? (i := 1554) (by decide +kernel), List.mem_of_getElem? (i := 1829) (by decide +kernel), List.mem_of_getElem? (i := 1830) (by decide +kernel)⟩
theorem lw_p72 : lw_okq (⟨"MakerStartsModel", "is", "(I)Z"⟩, 74) := ⟨⟨by decide +kernel, by decide +kernel⟩, List.mem_of_getElem? (i := 1554) (by decide +kernel), List.mem_of_getElem? (i := 1833) (by decide +kernel), List.mem_of_getElem? (i := 1834) (by decide +kernel)⟩
theorem lw_p73 : lw_okq (⟨"MakerStartsModel", "odd", "()V"⟩, 74) := ⟨⟨by decide +kernel, by decide +kernel⟩, List.mem_of_getElem? (i := 1554) (by decide +kernel), List.mem_of_getElem? (i := 1837) (by decide +kernel), List.mem_of_getElem? (i := 1838) (by decide +kernel)⟩
theorem lw_p74 : lw_okq (⟨"MakerStartsModel", "fail", "(II)V"⟩, 74) := ⟨⟨by decide +kernel, by decide +kernel⟩, List.mem_of_getElem? (i := 1554) (by decide +kernel), List.mem_of_getElem? (i := 1841) (by decide +kernel), List.mem_of_getElem? (i := 1842) (by decide +kernel)⟩
theorem lw_p75 : lw_okq (⟨"MakerStartsModel", "takeName", "()V"⟩, 74) := ⟨⟨by decide +kernel, by decide +kernel⟩, List.mem_of_getElem? (i := 1554) (by decide +kernel), List.mem_of_getElem? (i := 1845) (by decide +kernel), List.mem_of_getElem? (i := 1846) (by decide +kernel)⟩
theorem lw_p76 : lw_okq (⟨"MakerStartsModel", "take", "(I)V"⟩, 74) := ⟨⟨by decide +kernel, by decide +kernel⟩, List.mem_of_getElem? (i := 1554) (by decide +kernel), List.mem_of_getElem? (i := 1849) (by decide +kernel), List.mem_of_getElem? (i := 1850) (by decide +kernel)⟩
theorem lw_p77 : lw_okq (⟨"MakerStartsModel", "takes", "(I)Z"⟩, 74) := ⟨⟨by decide +kernel, by decide +kernel⟩, List.mem_of_getElem? (i := 1554) (by decide +kernel), List.mem_of_getElem? (i := 1853) (by decide +kernel), List.mem_of_getElem? (i := 1854) (by decide +kernel)⟩
theorem lw_p78 : lw_okq (⟨"MakerStartsModel", "readMember", "()V"⟩, 74) := ⟨⟨by decide +kernel, by decide +kernel⟩, List.mem_of_getElem? (i := 1554) (by decide +kernel), List.mem_of_getElem? (i := 1857) (by decide +kernel), List.mem_of_getElem? (i := 1858) (by decide +kernel)⟩
theorem lw_p79 : lw_okq (⟨"MakerStartsModel", "tellName", "()V"⟩, 74) := ⟨⟨by decide +kernel, by decide +kernel⟩, List.mem_of_getElem? (i := 1554) (by decide +kernel), List.mem_of_getElem? (i := 1861) (by decide +kernel), List.mem_of_getElem? (i := 1862) (by decide +kernel)⟩
def lw_privs_5 : List (MethodName × Nat) := [(⟨"MakerStarts$Machine", "leaveTry", "()V"⟩, 20), (⟨"MakerStarts$Machine", "leaveFrame", "()V"⟩, 20), (⟨"java/lang/Throwable", "fillInStackTrace", "(I)Ljava/lang/Throwable;"⟩, 6), (⟨"MakerStartsModel", "next", "()V"⟩, 74), (⟨"MakerStartsModel", "isSmall", "(I)Z"⟩, 74), (⟨"MakerStartsModel", "isDigit", "(I)Z"⟩, 74), (⟨"MakerStartsModel", "word", "()V"⟩, 74), (⟨"MakerStartsModel", "readType", "()V"⟩, 74), (⟨"MakerStartsModel", "is", "(I)Z"⟩, 74), (⟨"MakerStartsModel", "odd", "()V"⟩, 74), (⟨"MakerStartsModel", "fail", "(II)V"⟩, 74), (⟨"MakerStartsModel", "takeName", "()V"⟩, 74), (⟨"MakerStartsModel", "take", "(I)V"⟩, 74), (⟨"MakerStartsModel", "takes", "(I)Z"⟩, 74), (⟨"MakerStartsModel", "readMember", "()V"⟩, 74), (⟨"MakerStartsModel", "tellName", "()V"⟩, 74)]
theorem lw_r5 : ∀ q ∈ lw_privs_5, lw_okq q := List.forall_mem_cons.mpr ⟨lw_p64, List.forall_mem_cons.mpr ⟨lw_p65, List.forall_mem_cons.mpr ⟨lw_p66, List.forall_mem_cons.mpr ⟨lw_p67, List.forall_mem_cons.mpr ⟨lw_p68, List.forall_mem_cons.mpr ⟨lw_p69, List.forall_mem_cons.mpr ⟨lw_p70, List.forall_mem_cons.mpr ⟨lw_p71, List.forall_mem_cons.mpr ⟨lw_p72, List.forall_mem_cons.mpr ⟨lw_p73, List.forall_mem_cons.mpr ⟨lw_p74, List.forall_mem_cons.mpr ⟨lw_p75, List.forall_mem_cons.mpr ⟨lw_p76, List.forall_mem_cons.mpr ⟨lw_p77, List.forall_mem_cons.mpr ⟨lw_p78, List.forall_mem_cons.mpr ⟨lw_p79, fun _ h => absurd h List.not_mem_nil⟩⟩⟩⟩⟩⟩⟩⟩⟩⟩⟩⟩⟩⟩⟩⟩
theorem lw_p80 : lw_okq (⟨"MakerStartsModel", "exp", "()I"⟩, 74) := ⟨⟨by decide +kernel, by decide +kernel⟩, List.mem_of_getElem? (i := 1554) (by decide +kernel), List.mem_of_getElem? (i := 1865) (by decide +kernel), List.mem_of_getElem? (i := 1866) (by decide +kernel)⟩
theorem lw_p81 : lw_okq (⟨"MakerStartsModel", "term", "()I"⟩, 74) := ⟨⟨by decide +kernel, by decide +kernel⟩, List.mem_of_getElem? (i := 1554) (by decide +kernel), List.mem_of_getElem? (i := 1869) (by decide +kernel), List.mem_of_getElem? (i := 1870) (by decide +kernel)⟩
theorem lw_p82 : lw_okq (⟨"MakerStartsModel", "factor", "()I"⟩, 74) := ⟨⟨by decide +kernel, by decide +kernel⟩, List.mem_of_getElem? (i := 1554) (by decide +kernel), List.mem_of_getElem? (i := 1873) (by decide +kernel), List.mem_of_getElem? (i := 1874) (by decide +kernel)⟩
theorem lw_p83 : lw_okq (⟨"MakerStartsModel", "node", "(II)I"⟩, 74) := ⟨⟨by decide +kernel, by decide +kernel⟩, List.mem_of_getElem? (i := 1554) (by decide +kernel), List.mem_of_getElem? (i := 1877) (by decide +kernel), List.mem_of_getElem? (i := 1878) (by decide +kernel)⟩
theorem lw_p84 : lw_okq (⟨"MakerStartsModel", "opens", "()V"⟩, 74) := ⟨⟨by decide +kernel, by decide +kernel⟩, List.mem_of_getElem? (i := 1554) (by decide +kernel), List.mem_of_getElem? (i := 1881) (by decide +kernel), List.mem_of_getElem? (i := 1882) (by decide +kernel)⟩
theorem lw_p85 : lw_okq (⟨"MakerStartsModel", "readMaker", "()V"⟩, 74) := ⟨⟨by decide +kernel, by decide +kernel⟩, List.mem_of_getElem? (i := 1554) (by decide +kernel), List.mem_of_getElem? (i := 1885) (by decide +kernel), List.mem_of_getElem? (i := 1886) (by decide +kernel)⟩
theorem lw_p86 : lw_okq (⟨"MakerStartsModel", "later", "(II)V"⟩, 74) := ⟨⟨by decide +kernel, by decide +kernel⟩, List.mem_of_getElem? (i := 1554) (by decide +kernel), List.mem_of_getElem? (i := 1889) (by decide +kernel), List.mem_of_getElem? (i := 1890) (by decide +kernel)⟩
theorem lw_p87 : lw_okq (⟨"MakerStartsModel", "number", "(I)I"⟩, 74) := ⟨⟨by decide +kernel, by decide +kernel⟩, List.mem_of_getElem? (i := 1554) (by decide +kernel), List.mem_of_getElem? (i := 1893) (by decide +kernel), List.mem_of_getElem? (i := 1894) (by decide +kernel)⟩
theorem lw_p88 : lw_okq (⟨"MakerStartsModel", "list", "()I"⟩, 74) := ⟨⟨by decide +kernel, by decide +kernel⟩, List.mem_of_getElem? (i := 1554) (by decide +kernel), List.mem_of_getElem? (i := 1898) (by decide +kernel), List.mem_of_getElem? (i := 1899) (by decide +kernel)⟩
theorem lw_p89 : lw_okq (⟨"MakerStartsModel", "body", "()I"⟩, 74) := ⟨⟨by decide +kernel, by decide +kernel⟩, List.mem_of_getElem? (i := 1554) (by decide +kernel), List.mem_of_getElem? (i := 1902) (by decide +kernel), List.mem_of_getElem? (i := 1903) (by decide +kernel)⟩
theorem lw_p90 : lw_okq (⟨"MakerStartsModel", "statement", "()I"⟩, 74) := ⟨⟨by decide +kernel, by decide +kernel⟩, List.mem_of_getElem? (i := 1554) (by decide +kernel), List.mem_of_getElem? (i := 1906) (by decide +kernel), List.mem_of_getElem? (i := 1907) (by decide +kernel)⟩
theorem lw_p91 : lw_okq (⟨"MakerStartsModel", "readTry", "(I)V"⟩, 74) := ⟨⟨by decide +kernel, by decide +kernel⟩, List.mem_of_getElem? (i := 1554) (by decide +kernel), List.mem_of_getElem? (i := 1910) (by decide +kernel), List.mem_of_getElem? (i := 1911) (by decide +kernel)⟩
theorem lw_p92 : lw_okq (⟨"MakerStartsModel", "judge", "()V"⟩, 74) := ⟨⟨by decide +kernel, by decide +kernel⟩, List.mem_of_getElem? (i := 1554) (by decide +kernel), List.mem_of_getElem? (i := 1914) (by decide +kernel), List.mem_of_getElem? (i := 1915) (by decide +kernel)⟩
theorem lw_p93 : lw_okq (⟨"MakerStartsModel", "typeNamed", "(JI)I"⟩, 74) := ⟨⟨by decide +kernel, by decide +kernel⟩, List.mem_of_getElem? (i := 1554) (by decide +kernel), List.mem_of_getElem? (i := 1918) (by decide +kernel), List.mem_of_getElem? (i := 1919) (by decide +kernel)⟩
theorem lw_p94 : lw_okq (⟨"MakerStartsModel", "judgeTold", "(I)V"⟩, 74) := ⟨⟨by decide +kernel, by decide +kernel⟩, List.mem_of_getElem? (i := 1554) (by decide +kernel), List.mem_of_getElem? (i := 1922) (by decide +kernel), List.mem_of_getElem? (i := 1923) (by decide +kernel)⟩
theorem lw_p95 : lw_okq (⟨"MakerStartsModel", "judgeNames", "(I)V"⟩, 74) := ⟨⟨by decide +kernel, by decide +kernel⟩, List.mem_of_getElem? (i := 1554) (by decide +kernel), List.mem_of_getElem? (i := 1926) (by decide +kernel), List.mem_of_getElem? (i := 1927) (by decide +kernel)⟩
def lw_privs_6 : List (MethodName × Nat) := [(⟨"MakerStartsModel", "exp", "()I"⟩, 74), (⟨"MakerStartsModel", "term", "()I"⟩, 74), (⟨"MakerStartsModel", "factor", "()I"⟩, 74), (⟨"MakerStartsModel", "node", "(II)I"⟩, 74), (⟨"MakerStartsModel", "opens", "()V"⟩, 74), (⟨"MakerStartsModel", "readMaker", "()V"⟩, 74), (⟨"MakerStartsModel", "later", "(II)V"⟩, 74), (⟨"MakerStartsModel", "number", "(I)I"⟩, 74), (⟨"MakerStartsModel", "list", "()I"⟩, 74), (⟨"MakerStartsModel", "body", "()I"⟩, 74), (⟨"MakerStartsModel", "statement", "()I"⟩, 74), (⟨"MakerStartsModel", "readTry", "(I)V"⟩, 74), (⟨"MakerStartsModel", "judge", "()V"⟩, 74), (⟨"MakerStartsModel", "typeNamed", "(JI)I"⟩, 74), (⟨"MakerStartsModel", "judgeTold", "(I)V"⟩, 74), (⟨"MakerStartsModel", "judgeNames", "(I)V"⟩, 74)]
theorem lw_r6 : ∀ q ∈ lw_privs_6, lw_okq q := List.forall_mem_cons.mpr ⟨lw_p80, List.forall_mem_cons.mpr ⟨lw_p81, List.forall_mem_cons.mpr ⟨lw_p82, List.forall_mem_cons.mpr ⟨lw_p83, List.forall_mem_cons.mpr ⟨lw_p84, List.forall_mem_cons.mpr ⟨lw_p85, List.forall_mem_cons.mpr ⟨lw_p86, List.forall_mem_cons.mpr ⟨lw_p87, List.forall_mem_cons.mpr ⟨lw_p88, List.forall_mem_cons.mpr ⟨lw_p89, List.forall_mem_cons.mpr ⟨lw_p90, List.forall_mem_cons.mpr ⟨lw_p91, List.forall_mem_cons.mpr ⟨lw_p92, List.forall_mem_cons.mpr ⟨lw_p93, List.forall_mem_cons.mpr ⟨lw_p94, List.forall_mem_cons.mpr ⟨lw_p95, fun _ h => absurd h List.not_mem_nil⟩⟩⟩⟩⟩⟩⟩⟩⟩⟩⟩⟩⟩⟩⟩⟩
theorem lw_p96 : lw_okq (⟨"MakerStartsModel", "judgeExp", "(I)V"⟩, 74) := ⟨⟨by decide +kernel, by decide +kernel⟩, List.mem_of_getElem? (i := 1554) (by decide +kernel), List.mem_of_getElem? (i := 1930) (by decide +kernel), List.mem_of_getElem? (i := 1931) (by decide +kernel)⟩
theorem lw_p97 : lw_okq (⟨"MakerStartsModel", "judgeName", "(IZ)V"⟩, 74) := ⟨⟨by decide +kernel, by decide +kernel⟩, List.mem_of_getElem? (i := 1554) (by decide +kernel), List.mem_of_getElem? (i := 1934) (by decide +kernel), List.mem_of_getElem? (i := 1935) (by decide +kernel)⟩
theorem lw_p98 : lw_okq (⟨"MakerStartsModel", "paramOf", "(IJ)I"⟩, 74) := ⟨⟨by decide +kernel, by decide +kernel⟩, List.mem_of_getElem? (i := 1554) (by decide +kernel), List.mem_of_getElem? (i := 1938) (by decide +kernel), List.mem_of_getElem? (i := 1939) (by decide +kernel)⟩
theorem lw_p99 : lw_okq (⟨"MakerStartsModel", "meant", "(IJZ)I"⟩, 74) := ⟨⟨by decide +kernel, by decide +kernel⟩, List.mem_of_getElem? (i := 1554) (by decide +kernel), List.mem_of_getElem? (i := 1942) (by decide +kernel), List.mem_of_getElem? (i := 1943) (by decide +kernel)⟩
theorem lw_p100 : lw_okq (⟨"MakerStartsModel", "actOf", "(IJ)I"⟩, 74) := ⟨⟨by decide +kernel, by decide +kernel⟩, List.mem_of_getElem? (i := 1554) (by decide +kernel), List.mem_of_getElem? (i := 1946) (by decide +kernel), List.mem_of_getElem? (i := 1947) (by decide +kernel)⟩
theorem lw_p101 : lw_okq (⟨"MakerStartsModel", "judgeOf", "(IZ)V"⟩, 74) := ⟨⟨by decide +kernel, by decide +kernel⟩, List.mem_of_getElem? (i := 1554) (by decide +kernel), List.mem_of_getElem? (i := 1950) (by decide +kernel), List.mem_of_getElem? (i := 1951) (by decide +kernel)⟩
theorem lw_p102 : lw_okq (⟨"MakerStartsModel", "judgeList", "(I)V"⟩, 74) := ⟨⟨by decide +kernel, by decide +kernel⟩, List.mem_of_getElem? (i := 1554) (by decide +kernel), List.mem_of_getElem? (i := 1954) (by decide +kernel), List.mem_of_getElem? (i := 1955) (by decide +kernel)⟩
theorem lw_p103 : lw_okq (⟨"MakerStartsModel", "judgeLead", "(I)V"⟩, 74) := ⟨⟨by decide +kernel, by decide +kernel⟩, List.mem_of_getElem? (i := 1554) (by decide +kernel), List.mem_of_getElem? (i := 1958) (by decide +kernel), List.mem_of_getElem? (i := 1959) (by decide +kernel)⟩
theorem lw_p104 : lw_okq (⟨"MakerStartsModel", "makerOf", "(II)I"⟩, 74) := ⟨⟨by decide +kernel, by decide +kernel⟩, List.mem_of_getElem? (i := 1554) (by decide +kernel), List.mem_of_getElem? (i := 1962) (by decide +kernel), List.mem_of_getElem? (i := 1963) (by decide +kernel)⟩
theorem lw_p105 : lw_okq (⟨"MakerStartsModel", "hasMakers", "(I)Z"⟩, 74) := ⟨⟨by decide +kernel, by decide +kernel⟩, List.mem_of_getElem? (i := 1554) (by decide +kernel), List.mem_of_getElem? (i := 1966) (by decide +kernel), List.mem_of_getElem? (i := 1967) (by decide +kernel)⟩
theorem lw_p106 : lw_okq (⟨"MakerStartsModel", "judgeBody", "(I)V"⟩, 74) := ⟨⟨by decide +kernel, by decide +kernel⟩, List.mem_of_getElem? (i := 1554) (by decide +kernel), List.mem_of_getElem? (i := 1970) (by decide +kernel), List.mem_of_getElem? (i := 1971) (by decide +kernel)⟩
theorem lw_p107 : lw_okq (⟨"MakerStartsModel", "judgeStatement", "(I)V"⟩, 74) := ⟨⟨by decide +kernel, by decide +kernel⟩, List.mem_of_getElem? (i := 1554) (by decide +kernel), List.mem_of_getElem? (i := 1974) (by decide +kernel), List.mem_of_getElem? (i := 1975) (by decide +kernel)⟩
theorem lw_p108 : lw_okq (⟨"MakerStartsModel", "judgeOut", "(I)V"⟩, 74) := ⟨⟨by decide +kernel, by decide +kernel⟩, List.mem_of_getElem? (i := 1554) (by decide +kernel), List.mem_of_getElem? (i := 1978) (by decide +kernel), List.mem_of_getElem? (i := 1979) (by decide +kernel)⟩
theorem lw_p109 : lw_okq (⟨"MakerStartsModel", "judgeCatches", "(I)V"⟩, 74) := ⟨⟨by decide +kernel, by decide +kernel⟩, List.mem_of_getElem? (i := 1554) (by decide +kernel), List.mem_of_getElem? (i := 1982) (by decide +kernel), List.mem_of_getElem? (i := 1983) (by decide +kernel)⟩
theorem lw_p110 : lw_okq (⟨"MakerStartsModel", "outBody", "(I)I"⟩, 74) := ⟨⟨by decide +kernel, by decide +kernel⟩, List.mem_of_getElem? (i := 1554) (by decide +kernel), List.mem_of_getElem? (i := 1986) (by decide +kernel), List.mem_of_getElem? (i := 1987) (by decide +kernel)⟩
theorem lw_p111 : lw_okq (⟨"MakerStartsModel", "outOf", "(I)I"⟩, 74) := ⟨⟨by decide +kernel, by decide +kernel⟩, List.mem_of_getElem? (i := 1554) (by decide +kernel), List.mem_of_getElem? (i := 1990) (by decide +kernel), List.mem_of_getElem? (i := 1991) (by decide +kernel)⟩
def lw_privs_7 : List (MethodName × Nat) := [(⟨"MakerStartsModel", "judgeExp", "(I)V"⟩, 74), (⟨"MakerStartsModel", "judgeName", "(IZ)V"⟩, 74), (⟨"MakerStartsModel", "paramOf", "(IJ)I"⟩, 74), (⟨"MakerStartsModel", "meant", "(IJZ)I"⟩, 74), (⟨"MakerStartsModel", "actOf", "(IJ)I"⟩, 74), (⟨"MakerStartsModel", "judgeOf", "(IZ)V"⟩, 74), (⟨"MakerStartsModel", "judgeList", "(I)V"⟩, 74), (⟨"MakerStartsModel", "judgeLead", "(I)V"⟩, 74), (⟨"MakerStartsModel", "makerOf", "(II)I"⟩, 74), (⟨"MakerStartsModel", "hasMakers", "(I)Z"⟩, 74), (⟨"MakerStartsModel", "judgeBody", "(I)V"⟩, 74), (⟨"MakerStartsModel", "judgeStatement", "(I)V"⟩, 74), (⟨"MakerStartsModel", "judgeOut", "(I)V"⟩, 74), (⟨"MakerStartsModel", "judgeCatches", "(I)V"⟩, 74), (⟨"MakerStartsModel", "outBody", "(I)I"⟩, 74), (⟨"MakerStartsModel", "outOf", "(I)I"⟩, 74)]
theorem lw_r7 : ∀ q ∈ lw_privs_7, lw_okq q := List.forall_mem_cons.mpr ⟨lw_p96, List.forall_mem_cons.mpr ⟨lw_p97, List.forall_mem_cons.mpr ⟨lw_p98, List.forall_mem_cons.mpr ⟨lw_p99, List.forall_mem_cons.mpr ⟨lw_p100, List.forall_mem_cons.mpr ⟨lw_p101, List.forall_mem_cons.mpr ⟨lw_p102, List.forall_mem_cons.mpr ⟨lw_p103, List.forall_mem_cons.mpr ⟨lw_p104, List.forall_mem_cons.mpr ⟨lw_p105, List.forall_mem_cons.mpr ⟨lw_p106, List.forall_mem_cons.mpr ⟨lw_p107, List.forall_mem_cons.mpr ⟨lw_p108, List.forall_mem_cons.mpr ⟨lw_p109, List.forall_mem_cons.mpr ⟨lw_p110, List.forall_mem_cons.mpr ⟨lw_p111, fun _ h => absurd h List.not_mem_nil⟩⟩⟩⟩⟩⟩⟩⟩⟩⟩⟩⟩⟩⟩⟩⟩
theorem lw_p112 : lw_okq (⟨"MakerStartsModel", "endsBody", "(I)Z"⟩, 74) := ⟨⟨by decide +kernel, by decide +kernel⟩, List.mem_of_getElem? (i := 1554) (by decide +kernel), List.mem_of_getElem? (i := 1994) (by decide +kernel), List.mem_of_getElem? (i := 1995) (by decide +kernel)⟩
theorem lw_p113 : lw_okq (⟨"MakerStartsModel", "ends", "(I)Z"⟩, 74) := ⟨⟨by decide +kernel, by decide +kernel⟩, List.mem_of_getElem? (i := 1554) (by decide +kernel), List.mem_of_getElem? (i := 1998) (by decide +kernel), List.mem_of_getElem? (i := 1999) (by decide +kernel)⟩
theorem lw_p114 : lw_okq (⟨"MakerStartsModel", "outOfMaker", "(I)I"⟩, 74) := ⟨⟨by decide +kernel, by decide +kernel⟩, List.mem_of_getElem? (i := 1554) (by decide +kernel), List.mem_of_getElem? (i := 2002) (by decide +kernel), List.mem_of_getElem? (i := 2003) (by decide +kernel)⟩
theorem lw_p115 : lw_okq (⟨"MakerStartsModel", "toldBy", "(I)I"⟩, 74) := ⟨⟨by decide +kernel, by decide +kernel⟩, List.mem_of_getElem? (i := 1554) (by decide +kernel), List.mem_of_getElem? (i := 2006) (by decide +kernel), List.mem_of_getElem? (i := 2007) (by decide +kernel)⟩
theorem lw_p116 : lw_okq (⟨"MakerStartsModel", "outOfBlocks", "(I)I"⟩, 74) := ⟨⟨by decide +kernel, by decide +kernel⟩, List.mem_of_getElem? (i := 1554) (by decide +kernel), List.mem_of_getElem? (i := 2010) (by decide +kernel), List.mem_of_getElem? (i := 2011) (by decide +kernel)⟩
theorem lw_p117 : lw_okq (⟨"MakerStartsModel", "judgeRing", "(I)V"⟩, 74) := ⟨⟨by decide +kernel, by decide +kernel⟩, List.mem_of_getElem? (i := 1554) (by decide +kernel), List.mem_of_getElem? (i := 2014) (by decide +kernel), List.mem_of_getElem? (i := 2015) (by decide +kernel)⟩
theorem lw_p118 : lw_okq (⟨"MakerStartsModel", "outOfType", "(I)I"⟩, 74) := ⟨⟨by decide +kernel, by decide +kernel⟩, List.mem_of_getElem? (i := 1554) (by decide +kernel), List.mem_of_getElem? (i := 2018) (by decide +kernel), List.mem_of_getElem? (i := 2019) (by decide +kernel)⟩
theorem lw_p119 : lw_okq (⟨"MakerStartsModel", "holdConstants", "()V"⟩, 74) := ⟨⟨by decide +kernel, by decide +kernel⟩, List.mem_of_getElem? (i := 1554) (by decide +kernel), List.mem_of_getElem? (i := 2022) (by decide +kernel), List.mem_of_getElem? (i := 2023) (by decide +kernel)⟩
theorem lw_p120 : lw_okq (⟨"MakerStartsModel", "constant", "(I)I"⟩, 74) := ⟨⟨by decide +kernel, by decide +kernel⟩, List.mem_of_getElem? (i := 1554) (by decide +kernel), List.mem_of_getElem? (i := 2026) (by decide +kernel), List.mem_of_getElem? (i := 2027) (by decide +kernel)⟩
theorem lw_p121 : lw_okq (⟨"MakerStartsModel", "fresh", "()V"⟩, 74) := ⟨⟨by decide +kernel, by decide +kernel⟩, List.mem_of_getElem? (i := 1554) (by decide +kernel), List.mem_of_getElem? (i := 2037) (by decide +kernel), List.mem_of_getElem? (i := 2038) (by decide +kernel)⟩
theorem lw_p122 : lw_okq (⟨"MakerStartsModel", "makes", "(IIIII)I"⟩, 74) := ⟨⟨by decide +kernel, by decide +kernel⟩, List.mem_of_getElem? (i := 1554) (by decide +kernel), List.mem_of_getElem? (i := 2041) (by decide +kernel), List.mem_of_getElem? (i := 2042) (by decide +kernel)⟩
theorem lw_p123 : lw_okq (⟨"MakerStartsModel", "steps", "()Z"⟩, 74) := ⟨⟨by decide +kernel, by decide +kernel⟩, List.mem_of_getElem? (i := 1554) (by decide +kernel), List.mem_of_getElem? (i := 2045) (by decide +kernel), List.mem_of_getElem? (i := 2046) (by decide +kernel)⟩
theorem lw_p124 : lw_okq (⟨"MakerStartsModel", "begin", "(I)V"⟩, 74) := ⟨⟨by decide +kernel, by decide +kernel⟩, List.mem_of_getElem? (i := 1554) (by decide +kernel), List.mem_of_getElem? (i := 2049) (by decide +kernel), List.mem_of_getElem? (i := 2050) (by decide +kernel)⟩
theorem lw_p125 : lw_okq (⟨"MakerStartsModel", "work", "(II)I"⟩, 74) := ⟨⟨by decide +kernel, by decide +kernel⟩, List.mem_of_getElem? (i := 1554) (by decide +kernel), List.mem_of_getElem? (i := 2053) (by decide +kernel), List.mem_of_getElem? (i := 2054) (by decide +kernel)⟩
theorem lw_p126 : lw_okq (⟨"MakerStartsModel", "get", "(I)I"⟩, 74) := ⟨⟨by decide +kernel, by decide +kernel⟩, List.mem_of_getElem? (i := 1554) (by decide +kernel), List.mem_of_getElem? (i := 2057) (by decide +kernel), List.mem_of_getElem? (i := 2058) (by decide +kernel)⟩
theorem lw_p127 : lw_okq (⟨"MakerStartsModel", "callAct", "(J)I"⟩, 74) := ⟨⟨by decide +kernel, by decide +kernel⟩, List.mem_of_getElem? (i := 1554) (by decide +kernel), List.mem_of_getElem? (i := 2061) (by decide +kernel), List.mem_of_getElem? (i := 2062) (by decide +kernel)⟩
def lw_privs_8 : List (MethodName × Nat) := [(⟨"MakerStartsModel", "endsBody", "(I)Z"⟩, 74), (⟨"MakerStartsModel", "ends", "(I)Z"⟩, 74), (⟨"MakerStartsModel", "outOfMaker", "(I)I"⟩, 74), (⟨"MakerStartsModel", "toldBy", "(I)I"⟩, 74), (⟨"MakerStartsModel", "outOfBlocks", "(I)I"⟩, 74), (⟨"MakerStartsModel", "judgeRing", "(I)V"⟩, 74), (⟨"MakerStartsModel", "outOfType", "(I)I"⟩, 74), (⟨"MakerStartsModel", "holdConstants", "()V"⟩, 74), (⟨"MakerStartsModel", "constant", "(I)I"⟩, 74), (⟨"MakerStartsModel", "fresh", "()V"⟩, 74), (⟨"MakerStartsModel", "makes", "(IIIII)I"⟩, 74), (⟨"MakerStartsModel", "steps", "()Z"⟩, 74), (⟨"MakerStartsModel", "begin", "(I)V"⟩, 74), (⟨"MakerStartsModel", "work", "(II)I"⟩, 74), (⟨"MakerStartsModel", "get", "(I)I"⟩, 74), (⟨"MakerStartsModel", "callAct", "(J)I"⟩, 74)]
theorem lw_r8 : ∀ q ∈ lw_privs_8, lw_okq q := List.forall_mem_cons.mpr ⟨lw_p112, List.forall_mem_cons.mpr ⟨lw_p113, List.forall_mem_cons.mpr ⟨lw_p114, List.forall_mem_cons.mpr ⟨lw_p115, List.forall_mem_cons.mpr ⟨lw_p116, List.forall_mem_cons.mpr ⟨lw_p117, List.forall_mem_cons.mpr ⟨lw_p118, List.forall_mem_cons.mpr ⟨lw_p119, List.forall_mem_cons.mpr ⟨lw_p120, List.forall_mem_cons.mpr ⟨lw_p121, List.forall_mem_cons.mpr ⟨lw_p122, List.forall_mem_cons.mpr ⟨lw_p123, List.forall_mem_cons.mpr ⟨lw_p124, List.forall_mem_cons.mpr ⟨lw_p125, List.forall_mem_cons.mpr ⟨lw_p126, List.forall_mem_cons.mpr ⟨lw_p127, fun _ h => absurd h List.not_mem_nil⟩⟩⟩⟩⟩⟩⟩⟩⟩⟩⟩⟩⟩⟩⟩⟩
theorem lw_p128 : lw_okq (⟨"MakerStartsModel", "runBody", "(II)I"⟩, 74) := ⟨⟨by decide +kernel, by decide +kernel⟩, List.mem_of_getElem? (i := 1554) (by decide +kernel), List.mem_of_getElem? (i := 2065) (by decide +kernel), List.mem_of_getElem? (i := 2066) (by decide +kernel)⟩
theorem lw_p129 : lw_okq (⟨"MakerStartsModel", "run", "(II)I"⟩, 74) := ⟨⟨by decide +kernel, by decide +kernel⟩, List.mem_of_getElem? (i := 1554) (by decide +kernel), List.mem_of_getElem? (i := 2069) (by decide +kernel), List.mem_of_getElem? (i := 2070) (by decide +kernel)⟩
theorem lw_p130 : lw_okq (⟨"MakerStartsModel", "set", "(II)V"⟩, 74) := ⟨⟨by decide +kernel, by decide +kernel⟩, List.mem_of_getElem? (i := 1554) (by decide +kernel), List.mem_of_getElem? (i := 2073) (by decide +kernel), List.mem_of_getElem? (i := 2074) (by decide +kernel)⟩
theorem lw_p131 : lw_okq (⟨"MakerStartsModel", "runTry", "(II)I"⟩, 74) := ⟨⟨by decide +kernel, by decide +kernel⟩, List.mem_of_getElem? (i := 1554) (by decide +kernel), List.mem_of_getElem? (i := 2077) (by decide +kernel), List.mem_of_getElem? (i := 2078) (by decide +kernel)⟩
theorem lw_p132 : lw_okq (⟨"MakerStartsModel", "runNew", "(II)I"⟩, 74) := ⟨⟨by decide +kernel, by decide +kernel⟩, List.mem_of_getElem? (i := 1554) (by decide +kernel), List.mem_of_getElem? (i := 2081) (by decide +kernel), List.mem_of_getElem? (i := 2082) (by decide +kernel)⟩
theorem lw_p133 : lw_okq (⟨"MakerStartsModel", "lead", "(IIII)V"⟩, 74) := ⟨⟨by decide +kernel, by decide +kernel⟩, List.mem_of_getElem? (i := 1554) (by decide +kernel), List.mem_of_getElem? (i := 2085) (by decide +kernel), List.mem_of_getElem? (i := 2086) (by decide +kernel)⟩
theorem lw_p134 : lw_okq (⟨"MakerStartsModel", "leadOn", "(III)V"⟩, 74) := ⟨⟨by decide +kernel, by decide +kernel⟩, List.mem_of_getElem? (i := 1554) (by decide +kernel), List.mem_of_getElem? (i := 2089) (by decide +kernel), List.mem_of_getElem? (i := 2090) (by decide +kernel)⟩
theorem lw_p135 : lw_okq (⟨"MakerStartsModel", "fill", "(II)V"⟩, 74) := ⟨⟨by decide +kernel, by decide +kernel⟩, List.mem_of_getElem? (i := 1554) (by decide +kernel), List.mem_of_getElem? (i := 2093) (by decide +kernel), List.mem_of_getElem? (i := 2094) (by decide +kernel)⟩
theorem lw_p136 : lw_okq (⟨"MakerStartsModel", "isBelow", "(II)Z"⟩, 74) := ⟨⟨by decide +kernel, by decide +kernel⟩, List.mem_of_getElem? (i := 1554) (by decide +kernel), List.mem_of_getElem? (i := 2121) (by decide +kernel), List.mem_of_getElem? (i := 2122) (by decide +kernel)⟩
def lw_privs_9 : List (MethodName × Nat) := [(⟨"MakerStartsModel", "runBody", "(II)I"⟩, 74), (⟨"MakerStartsModel", "run", "(II)I"⟩, 74), (⟨"MakerStartsModel", "set", "(II)V"⟩, 74), (⟨"MakerStartsModel", "runTry", "(II)I"⟩, 74), (⟨"MakerStartsModel", "runNew", "(II)I"⟩, 74), (⟨"MakerStartsModel", "lead", "(IIII)V"⟩, 74), (⟨"MakerStartsModel", "leadOn", "(III)V"⟩, 74), (⟨"MakerStartsModel", "fill", "(II)V"⟩, 74), (⟨"MakerStartsModel", "isBelow", "(II)Z"⟩, 74)]
theorem lw_r9 : ∀ q ∈ lw_privs_9, lw_okq q := List.forall_mem_cons.mpr ⟨lw_p128, List.forall_mem_cons.mpr ⟨lw_p129, List.forall_mem_cons.mpr ⟨lw_p130, List.forall_mem_cons.mpr ⟨lw_p131, List.forall_mem_cons.mpr ⟨lw_p132, List.forall_mem_cons.mpr ⟨lw_p133, List.forall_mem_cons.mpr ⟨lw_p134, List.forall_mem_cons.mpr ⟨lw_p135, List.forall_mem_cons.mpr ⟨lw_p136, fun _ h => absurd h List.not_mem_nil⟩⟩⟩⟩⟩⟩⟩⟩⟩
def lw_privs : List (MethodName × Nat) := lw_privs_1 ++ (lw_privs_2 ++ (lw_privs_3 ++ (lw_privs_4 ++ (lw_privs_5 ++ (lw_privs_6 ++ (lw_privs_7 ++ (lw_privs_8 ++ (lw_privs_9))))))))
def lw_tbl : List Cond := k2_sels lw_privs ++ tables_1
theorem lw_privs_ok : ∀ q ∈ lw_privs, lw_okq q := by
  show ∀ q ∈ lw_privs_1 ++ (lw_privs_2 ++ (lw_privs_3 ++ (lw_privs_4 ++ (lw_privs_5 ++ (lw_privs_6 ++ (lw_privs_7 ++ (lw_privs_8 ++ (lw_privs_9)))))))), lw_okq q
  exact List.forall_mem_append.mpr ⟨lw_r1, List.forall_mem_append.mpr ⟨lw_r2, List.forall_mem_append.mpr ⟨lw_r3, List.forall_mem_append.mpr ⟨lw_r4, List.forall_mem_append.mpr ⟨lw_r5, List.forall_mem_append.mpr ⟨lw_r6, List.forall_mem_append.mpr ⟨lw_r7, List.forall_mem_append.mpr ⟨lw_r8, lw_r9⟩⟩⟩⟩⟩⟩⟩⟩
end
section
/-! One list of words for every method: the good words of the tables. -/
def TB : List Cond := lw_tbl.filter goodWord
theorem inTB {w : Cond} (i : Nat) (h : lw_tbl[i]? = some w) (g : goodWord w = true) : w ∈ TB := List.mem_filter.mpr ⟨List.mem_of_getElem? h, g⟩
theorem goodTB {w : Cond} (h : w ∈ TB) : (w.onTables && w.keeps) = true ∨ ∃ ty, w = .arrayClass ty := good_of_word (List.mem_filter.mp h).2
theorem inTBs (ws : List Cond) (ps : List Nat) (hp : ws = ps.filterMap (fun i => lw_tbl[i]?)) (h : ws.all goodWord = true) : ∀ w ∈ ws, w ∈ TB := by
  intro w hw
  have h1 := List.all_eq_true.mp h w hw
  rw [hp] at hw
  obtain ⟨i, -, hi⟩ := List.mem_filterMap.mp hw
  exact inTB i hi h1
theorem gTB {w : Cond} (h : w ∈ TB) : GoodIn TB (w :: TB) := fun v hv => (List.mem_cons.mp hv).elim (fun e => by rw [e]; exact ⟨h, goodTB h⟩) (fun h' => ⟨h', goodTB h'⟩)
theorem gTBV {own C : String} {idx : Nat} {y : MethodName} {w : Cond} (h1 : Cond.methodLink own idx y ∈ TB) (h2 : Cond.instanceMethod y ∈ TB) (h3 : Cond.selects C y y ∈ TB) (h4 : Cond.initialized C ∈ TB) (h : w ∈ TB) : GoodIn TB (wsV own idx C y (w :: TB)) := by
  intro v hv
  rcases List.mem_append.mp hv with hv | hv
  · simp only [List.mem_cons, List.not_mem_nil, or_false] at hv
    rcases hv with rfl | rfl | rfl | rfl
    · exact ⟨h1, goodTB h1⟩
    · exact ⟨h2, goodTB h2⟩
    · exact ⟨h3, goodTB h3⟩
    · exact ⟨h4, goodTB h4⟩
  · exact gTB h v hv
theorem gTBS {own : String} {idx : Nat} {y : MethodName} {w : Cond} (h1 : Cond.methodLink own idx y ∈ TB) (h2 : Cond.static y ∈ TB) (h4 : Cond.initialized y.cls ∈ TB) (h : w ∈ TB) : GoodIn TB (va_wsS own idx y (w :: TB)) := by
  intro v hv
  rcases List.mem_append.mp hv with hv | hv
  · simp only [List.mem_cons, List.not_mem_nil, or_false] at hv
    rcases hv with rfl | rfl | rfl
    · exact ⟨h1, goodTB h1⟩
    · exact ⟨h2, goodTB h2⟩
    · exact ⟨h4, goodTB h4⟩
  · exact gTB h v hv
/-- two array classes of one type are one -/
theorem ty_same {D : va_G} {cl : List vw_C} {tys : List (ClassId × FieldType)} {U : State} (hK : va_K D cl tys U) (i j : Nat) {c1 c2 : ClassId} {ty : FieldType} (h1 : tys[i]? = some (c1, ty)) (h2 : tys[j]? = some (c2, ty)) : c2 = c1 := by
  have a := (hK.2 i _ h1).2
  have b := (hK.2 j _ h2).2
  cases ty <;> first | exact Option.some.inj (Eq.trans (Eq.symm b) a) | (obtain ⟨_, _, _, _, _, x⟩ := a; obtain ⟨_, _, _, _, _, y⟩ := b; exact Option.some.inj (y.symm.trans x))
end
section
/-! Names, out of the print of names: classes, fields, types, methods. -/
def RX0 : String := "MakerStarts$Bodies"
def TX0 : u_T := fun k => match k with
  | 0 => ("MakerStarts$Bodies", "tokens", "LMakerStarts$Tokens;", true)
  | 1 => ("MakerStarts$Bodies", "text", "LMakerStarts$Text;", false)
  | 2 => ("MakerStarts$Bodies", "member", "LMakerStarts$Member;", false)
  | 3 => ("MakerStarts$Bodies", "still", "Z", false)
  | 4 => ("MakerStarts$Bodies", "depth", "I", false)
  | _ => ("MakerStarts$Bodies", "statements", "I", false)
def tyX0 : Nat → FieldType := fun k => match k with
  | 0 => .object "MakerStarts$Tokens"
  | 1 => .object "MakerStarts$Text"
  | 2 => .object "MakerStarts$Member"
  | 3 => .boolean
  | 4 => .int
  | _ => .int
theorem nmX0 : ∀ a, a < 6 → ∀ b, b < 6 → a ≠ b → (TX0 a).2.1 ≠ (TX0 b).2.1 := by decide +kernel
theorem tyX0_ok : ∀ k, k < 6 → parseFieldDescriptor (TX0 k).2.2.1 = some (tyX0 k) := by decide +kernel
abbrev cX0_init : ByteArray := prog_2_method_1_code
def yX0_init : MethodName := ⟨RX0, "<init>", "(LMakerStarts$Tokens;)V"⟩
abbrev cX0_begin : ByteArray := prog_2_method_2_code
def yX0_begin : MethodName := ⟨RX0, "begin", "(LMakerStarts$Text;)V"⟩
abbrev cX0_enter : ByteArray := prog_2_method_3_code
def yX0_enter : MethodName := ⟨RX0, "enter", "(LMakerStarts$Member;Z)V"⟩
abbrev cX0_enterBody : ByteArray := prog_2_method_4_code
def yX0_enterBody : MethodName := ⟨RX0, "enterBody", "(LMakerStarts$Member;)V"⟩
abbrev cX0_number : ByteArray := prog_2_method_5_code
def yX0_number : MethodName := ⟨RX0, "number", "(I)I"⟩
abbrev cX0_opens : ByteArray := prog_2_method_6_code
def yX0_opens : MethodName := ⟨RX0, "opens", "(I)Z"⟩
abbrev cX0_body : ByteArray := prog_2_method_7_code
def yX0_body : MethodName := ⟨RX0, "body", "()V"⟩
abbrev cX0_startsStatement : ByteArray := prog_2_method_8_code
def yX0_startsStatement : MethodName := ⟨RX0, "startsStatement", "()Z"⟩
abbrev cX0_statement : ByteArray := prog_2_method_9_code
def yX0_statement : MethodName := ⟨RX0, "statement", "()V"⟩
abbrev cX0_plainStatement : ByteArray := prog_2_method_10_code
def yX0_plainStatement : MethodName := ⟨RX0, "plainStatement", "()V"⟩
abbrev cX0_setStatement : ByteArray := prog_2_method_11_code
def yX0_setStatement : MethodName := ⟨RX0, "setStatement", "()V"⟩
abbrev cX0_ifStatement : ByteArray := prog_2_method_12_code
def yX0_ifStatement : MethodName := ⟨RX0, "ifStatement", "()V"⟩
abbrev cX0_tryStatement : ByteArray := prog_2_method_13_code
def yX0_tryStatement : MethodName := ⟨RX0, "tryStatement", "()V"⟩
abbrev cX0_catchPart : ByteArray := prog_2_method_14_code
def yX0_catchPart : MethodName := ⟨RX0, "catchPart", "(I)V"⟩
abbrev cX0_exps : ByteArray := prog_2_method_15_code
def yX0_exps : MethodName := ⟨RX0, "exps", "()I"⟩
abbrev cX0_exp : ByteArray := prog_2_method_16_code
def yX0_exp : MethodName := ⟨RX0, "exp", "()V"⟩
abbrev cX0_term : ByteArray := prog_2_method_17_code
def yX0_term : MethodName := ⟨RX0, "term", "()V"⟩
abbrev cX0_termOp : ByteArray := prog_2_method_18_code
def yX0_termOp : MethodName := ⟨RX0, "termOp", "(I)I"⟩
abbrev cX0_factor : ByteArray := prog_2_method_19_code
def yX0_factor : MethodName := ⟨RX0, "factor", "()V"⟩
abbrev cX0_dot : ByteArray := prog_2_method_20_code
def yX0_dot : MethodName := ⟨RX0, "dot", "(LMakerStarts$Use;)V"⟩
abbrev cX0_write : ByteArray := prog_2_method_21_code
def yX0_write : MethodName := ⟨RX0, "write", "(LMakerStarts$Use;)V"⟩
def RX1 : String := "MakerStarts$Flow"
def TX1 : u_T := fun k => match k with
  | 0 => ("MakerStarts$Flow", "outs", "[I", true)
  | 1 => ("MakerStarts$Flow", "wells", "[Z", true)
  | 2 => ("MakerStarts$Flow", "top", "I", false)
  | _ => ("MakerStarts$Flow", "text", "LMakerStarts$Text;", false)
def tyX1 : Nat → FieldType := fun k => match k with
  | 0 => .array .int
  | 1 => .array .boolean
  | 2 => .int
  | _ => .object "MakerStarts$Text"
theorem nmX1 : ∀ a, a < 4 → ∀ b, b < 4 → a ≠ b → (TX1 a).2.1 ≠ (TX1 b).2.1 := by decide +kernel
theorem tyX1_ok : ∀ k, k < 4 → parseFieldDescriptor (TX1 k).2.2.1 = some (tyX1 k) := by decide +kernel
abbrev cX1_init : ByteArray := prog_3_method_1_code
def yX1_init : MethodName := ⟨RX1, "<init>", "()V"⟩
abbrev cX1_judge : ByteArray := prog_3_method_2_code
def yX1_judge : MethodName := ⟨RX1, "judge", "(LMakerStarts$Text;)V"⟩
abbrev cX1_judgeMember : ByteArray := prog_3_method_3_code
def yX1_judgeMember : MethodName := ⟨RX1, "judgeMember", "(LMakerStarts$Member;)I"⟩
abbrev cX1_judgeMaker : ByteArray := prog_3_method_4_code
def yX1_judgeMaker : MethodName := ⟨RX1, "judgeMaker", "(LMakerStarts$Member;I)V"⟩
abbrev cX1_follow : ByteArray := prog_3_method_5_code
def yX1_follow : MethodName := ⟨RX1, "follow", "(I)V"⟩
abbrev cX1_meet : ByteArray := prog_3_method_6_code
def yX1_meet : MethodName := ⟨RX1, "meet", "(III)V"⟩
abbrev cX1_close : ByteArray := prog_3_method_7_code
def yX1_close : MethodName := ⟨RX1, "close", "(I)V"⟩
def RX2 : String := "MakerStarts$Frame"
def TX2 : u_T := fun k => match k with
  | 0 => ("MakerStarts$Frame", "kind", "I", false)
  | 1 => ("MakerStarts$Frame", "type", "I", false)
  | 2 => ("MakerStarts$Frame", "back", "I", false)
  | 3 => ("MakerStarts$Frame", "link", "I", false)
  | 4 => ("MakerStarts$Frame", "base", "I", false)
  | 5 => ("MakerStarts$Frame", "own", "Z", false)
  | 6 => ("MakerStarts$Frame", "home", "LMakerStarts$Frame;", false)
  | 7 => ("MakerStarts$Frame", "madeType", "I", false)
  | 8 => ("MakerStarts$Frame", "madeFields", "[I", true)
  | 9 => ("MakerStarts$Frame", "parameters", "[I", true)
  | 10 => ("MakerStarts$Frame", "at", "[I", true)
  | 11 => ("MakerStarts$Frame", "phases", "[I", true)
  | 12 => ("MakerStarts$Frame", "waiting", "[I", true)
  | 13 => ("MakerStarts$Frame", "values", "[I", true)
  | _ => ("MakerStarts$Frame", "tries", "I", false)
def tyX2 : Nat → FieldType := fun k => match k with
  | 0 => .int
  | 1 => .int
  | 2 => .int
  | 3 => .int
  | 4 => .int
  | 5 => .boolean
  | 6 => .object "MakerStarts$Frame"
  | 7 => .int
  | 8 => .array .int
  | 9 => .array .int
  | 10 => .array .int
  | 11 => .array .int
  | 12 => .array .int
  | 13 => .array .int
  | _ => .int
theorem nmX2 : ∀ a, a < 15 → ∀ b, b < 15 → a ≠ b → (TX2 a).2.1 ≠ (TX2 b).2.1 := by decide +kernel
theorem tyX2_ok : ∀ k, k < 15 → parseFieldDescriptor (TX2 k).2.2.1 = some (tyX2 k) := by decide +kernel
abbrev cX2_init : ByteArray := prog_4_method_1_code
def yX2_init : MethodName := ⟨RX2, "<init>", "()V"⟩
abbrev cX2_clear : ByteArray := prog_4_method_2_code
def yX2_clear : MethodName := ⟨RX2, "clear", "()V"⟩
abbrev cX2_isTrying : ByteArray := prog_4_method_3_code
def yX2_isTrying : MethodName := ⟨RX2, "isTrying", "()Z"⟩
abbrev cX2_openTry : ByteArray := prog_4_method_4_code
def yX2_openTry : MethodName := ⟨RX2, "openTry", "(I)V"⟩
abbrev cX2_closeTry : ByteArray := prog_4_method_5_code
def yX2_closeTry : MethodName := ⟨RX2, "closeTry", "()V"⟩
abbrev cX2_tryCode : ByteArray := prog_4_method_6_code
def yX2_tryCode : MethodName := ⟨RX2, "tryCode", "()I"⟩
abbrev cX2_phase : ByteArray := prog_4_method_7_code
def yX2_phase : MethodName := ⟨RX2, "phase", "()I"⟩
abbrev cX2_toCatch : ByteArray := prog_4_method_8_code
def yX2_toCatch : MethodName := ⟨RX2, "toCatch", "()V"⟩
abbrev cX2_toFinally : ByteArray := prog_4_method_9_code
def yX2_toFinally : MethodName := ⟨RX2, "toFinally", "(II)V"⟩
abbrev cX2_waits : ByteArray := prog_4_method_10_code
def yX2_waits : MethodName := ⟨RX2, "waits", "()I"⟩
abbrev cX2_waitingValue : ByteArray := prog_4_method_11_code
def yX2_waitingValue : MethodName := ⟨RX2, "waitingValue", "()I"⟩
def RX3 : String := "MakerStarts$Judge"
abbrev cX3_judge : ByteArray := prog_5_method_2_code
def yX3_judge : MethodName := ⟨RX3, "judge", "(LMakerStarts$Text;)V"⟩
abbrev cX3_judgeUse : ByteArray := prog_5_method_3_code
def yX3_judgeUse : MethodName := ⟨RX3, "judgeUse", "(LMakerStarts$Text;LMakerStarts$Use;)V"⟩
abbrev cX3_judgeAlone : ByteArray := prog_5_method_4_code
def yX3_judgeAlone : MethodName := ⟨RX3, "judgeAlone", "(LMakerStarts$Text;LMakerStarts$Use;)V"⟩
abbrev cX3_judgeDotted : ByteArray := prog_5_method_5_code
def yX3_judgeDotted : MethodName := ⟨RX3, "judgeDotted", "(LMakerStarts$Text;LMakerStarts$Use;)V"⟩
abbrev cX3_isNoConstantAbove : ByteArray := prog_5_method_6_code
def yX3_isNoConstantAbove : MethodName := ⟨RX3, "isNoConstantAbove", "(LMakerStarts$Use;)Z"⟩
abbrev cX3_isTooEarly : ByteArray := prog_5_method_7_code
def yX3_isTooEarly : MethodName := ⟨RX3, "isTooEarly", "(LMakerStarts$Use;)Z"⟩
abbrev cX3_judgeCalled : ByteArray := prog_5_method_8_code
def yX3_judgeCalled : MethodName := ⟨RX3, "judgeCalled", "(LMakerStarts$Text;LMakerStarts$Use;)V"⟩
abbrev cX3_judgeNew : ByteArray := prog_5_method_9_code
def yX3_judgeNew : MethodName := ⟨RX3, "judgeNew", "(LMakerStarts$Text;LMakerStarts$Use;)V"⟩
abbrev cX3_judgeMaker : ByteArray := prog_5_method_10_code
def yX3_judgeMaker : MethodName := ⟨RX3, "judgeMaker", "(LMakerStarts$Text;LMakerStarts$Member;)V"⟩
abbrev cX3_judgeRing : ByteArray := prog_5_method_11_code
def yX3_judgeRing : MethodName := ⟨RX3, "judgeRing", "(LMakerStarts$Text;LMakerStarts$Member;)V"⟩
def RX4 : String := "MakerStarts$Machine"
def TX4 : u_T := fun k => match k with
  | 0 => ("MakerStarts$Machine", "text", "LMakerStarts$Text;", false)
  | 1 => ("MakerStarts$Machine", "values", "[I", true)
  | 2 => ("MakerStarts$Machine", "states", "[I", true)
  | 3 => ("MakerStarts$Machine", "marks", "[I", true)
  | 4 => ("MakerStarts$Machine", "markCount", "I", false)
  | 5 => ("MakerStarts$Machine", "made", "I", false)
  | 6 => ("MakerStarts$Machine", "steps", "I", false)
  | 7 => ("MakerStarts$Machine", "stack", "[I", true)
  | 8 => ("MakerStarts$Machine", "top", "I", false)
  | 9 => ("MakerStarts$Machine", "frames", "[LMakerStarts$Frame;", true)
  | 10 => ("MakerStarts$Machine", "depth", "I", false)
  | 11 => ("MakerStarts$Machine", "calls", "I", false)
  | 12 => ("MakerStarts$Machine", "pc", "I", false)
  | 13 => ("MakerStarts$Machine", "lowest", "LMakerStarts$Frame;", true)
  | 14 => ("MakerStarts$Machine", "now", "LMakerStarts$Frame;", false)
  | 15 => ("MakerStarts$Machine", "lenient", "Z", false)
  | 16 => ("MakerStarts$Machine", "leaving", "I", false)
  | 17 => ("MakerStarts$Machine", "leavingValue", "I", false)
  | 18 => ("MakerStarts$Machine", "over", "Z", false)
  | _ => ("MakerStarts$Machine", "answer", "I", false)
def tyX4 : Nat → FieldType := fun k => match k with
  | 0 => .object "MakerStarts$Text"
  | 1 => .array .int
  | 2 => .array .int
  | 3 => .array .int
  | 4 => .int
  | 5 => .int
  | 6 => .int
  | 7 => .array .int
  | 8 => .int
  | 9 => .array (.object "MakerStarts$Frame")
  | 10 => .int
  | 11 => .int
  | 12 => .int
  | 13 => .object "MakerStarts$Frame"
  | 14 => .object "MakerStarts$Frame"
  | 15 => .boolean
  | 16 => .int
  | 17 => .int
  | 18 => .boolean
  | _ => .int
theorem nmX4 : ∀ a, a < 20 → ∀ b, b < 20 → a ≠ b → (TX4 a).2.1 ≠ (TX4 b).2.1 := by decide +kernel
theorem tyX4_ok : ∀ k, k < 20 → parseFieldDescriptor (TX4 k).2.2.1 = some (tyX4 k) := by decide +kernel
abbrev cX4_init : ByteArray := prog_6_method_1_code
def yX4_init : MethodName := ⟨RX4, "<init>", "(LMakerStarts$Text;)V"⟩
abbrev cX4_stateOf : ByteArray := prog_6_method_2_code
def yX4_stateOf : MethodName := ⟨RX4, "stateOf", "(I)I"⟩
abbrev cX4_valueAt : ByteArray := prog_6_method_3_code
def yX4_valueAt : MethodName := ⟨RX4, "valueAt", "(I)I"⟩
abbrev cX4_latest : ByteArray := prog_6_method_4_code
def yX4_latest : MethodName := ⟨RX4, "latest", "()I"⟩
abbrev cX4_latestField : ByteArray := prog_6_method_5_code
def yX4_latestField : MethodName := ⟨RX4, "latestField", "(I)I"⟩
abbrev cX4_begin : ByteArray := prog_6_method_6_code
def yX4_begin : MethodName := ⟨RX4, "begin", "(LMakerStarts$Text;)V"⟩
abbrev cX4_build : ByteArray := prog_6_method_7_code
def yX4_build : MethodName := ⟨RX4, "build", "(LMakerStarts$Member;III)I"⟩
abbrev cX4_ask : ByteArray := prog_6_method_8_code
def yX4_ask : MethodName := ⟨RX4, "ask", "(LMakerStarts$Type;)I"⟩
abbrev cX4_clear : ByteArray := prog_6_method_9_code
def yX4_clear : MethodName := ⟨RX4, "clear", "()V"⟩
abbrev cX4_go : ByteArray := prog_6_method_10_code
def yX4_go : MethodName := ⟨RX4, "go", "(I)V"⟩
abbrev cX4_next : ByteArray := prog_6_method_11_code
def yX4_next : MethodName := ⟨RX4, "next", "()I"⟩
abbrev cX4_push : ByteArray := prog_6_method_12_code
def yX4_push : MethodName := ⟨RX4, "push", "(I)V"⟩
abbrev cX4_pop : ByteArray := prog_6_method_13_code
def yX4_pop : MethodName := ⟨RX4, "pop", "()I"⟩
abbrev cX4_turn : ByteArray := prog_6_method_14_code
def yX4_turn : MethodName := ⟨RX4, "turn", "()V"⟩
abbrev cX4_steer : ByteArray := prog_6_method_15_code
def yX4_steer : MethodName := ⟨RX4, "steer", "(I)V"⟩
abbrev cX4_compute : ByteArray := prog_6_method_16_code
def yX4_compute : MethodName := ⟨RX4, "compute", "(I)V"⟩
abbrev cX4_divide : ByteArray := prog_6_method_17_code
def yX4_divide : MethodName := ⟨RX4, "divide", "(III)V"⟩
abbrev cX4_get : ByteArray := prog_6_method_18_code
def yX4_get : MethodName := ⟨RX4, "get", "(II)V"⟩
abbrev cX4_set : ByteArray := prog_6_method_19_code
def yX4_set : MethodName := ⟨RX4, "set", "(II)V"⟩
abbrev cX4_isReady : ByteArray := prog_6_method_20_code
def yX4_isReady : MethodName := ⟨RX4, "isReady", "(I)Z"⟩
abbrev cX4_countStep : ByteArray := prog_6_method_21_code
def yX4_countStep : MethodName := ⟨RX4, "countStep", "()V"⟩
abbrev cX4_spend : ByteArray := prog_6_method_22_code
def yX4_spend : MethodName := ⟨RX4, "spend", "()V"⟩
abbrev cX4_keepMark : ByteArray := prog_6_method_23_code
def yX4_keepMark : MethodName := ⟨RX4, "keepMark", "(I)V"⟩
abbrev cX4_test : ByteArray := prog_6_method_24_code
def yX4_test : MethodName := ⟨RX4, "test", "(I)V"⟩
abbrev cX4_enter : ByteArray := prog_6_method_25_code
def yX4_enter : MethodName := ⟨RX4, "enter", "(III)V"⟩
abbrev cX4_drop : ByteArray := prog_6_method_26_code
def yX4_drop : MethodName := ⟨RX4, "drop", "()V"⟩
abbrev cX4_callAct : ByteArray := prog_6_method_27_code
def yX4_callAct : MethodName := ⟨RX4, "callAct", "(I)V"⟩
abbrev cX4_callNew : ByteArray := prog_6_method_28_code
def yX4_callNew : MethodName := ⟨RX4, "callNew", "(I)V"⟩
abbrev cX4_callMaker : ByteArray := prog_6_method_29_code
def yX4_callMaker : MethodName := ⟨RX4, "callMaker", "(LMakerStarts$Member;LMakerStarts$Frame;)V"⟩
abbrev cX4_done : ByteArray := prog_6_method_30_code
def yX4_done : MethodName := ⟨RX4, "done", "()V"⟩
abbrev cX4_settle : ByteArray := prog_6_method_31_code
def yX4_settle : MethodName := ⟨RX4, "settle", "(I)V"⟩
abbrev cX4_leaveWith : ByteArray := prog_6_method_32_code
def yX4_leaveWith : MethodName := ⟨RX4, "leaveWith", "(II)V"⟩
abbrev cX4_leaveTry : ByteArray := prog_6_method_33_code
def yX4_leaveTry : MethodName := ⟨RX4, "leaveTry", "()V"⟩
abbrev cX4_goesToFinally : ByteArray := prog_6_method_34_code
def yX4_goesToFinally : MethodName := ⟨RX4, "goesToFinally", "()Z"⟩
abbrev cX4_endPart : ByteArray := prog_6_method_35_code
def yX4_endPart : MethodName := ⟨RX4, "endPart", "()V"⟩
abbrev cX4_leaveFrame : ByteArray := prog_6_method_36_code
def yX4_leaveFrame : MethodName := ⟨RX4, "leaveFrame", "()V"⟩
def RX5 : String := "MakerStarts$Member"
def TX5 : u_T := fun k => match k with
  | 0 => ("MakerStarts$Member", "type", "LMakerStarts$Type;", true)
  | 1 => ("MakerStarts$Member", "index", "I", true)
  | 2 => ("MakerStarts$Member", "kind", "I", false)
  | 3 => ("MakerStarts$Member", "still", "Z", false)
  | 4 => ("MakerStarts$Member", "name", "J", false)
  | 5 => ("MakerStarts$Member", "place", "I", false)
  | 6 => ("MakerStarts$Member", "namePlace", "I", false)
  | 7 => ("MakerStarts$Member", "code", "I", false)
  | 8 => ("MakerStarts$Member", "head", "I", false)
  | 9 => ("MakerStarts$Member", "shape", "I", false)
  | 10 => ("MakerStarts$Member", "comes", "I", false)
  | 11 => ("MakerStarts$Member", "parameters", "[J", true)
  | 12 => ("MakerStarts$Member", "parameterCount", "I", false)
  | 13 => ("MakerStarts$Member", "tells", "I", false)
  | 14 => ("MakerStarts$Member", "callKind", "I", false)
  | 15 => ("MakerStarts$Member", "callPlace", "I", false)
  | 16 => ("MakerStarts$Member", "callCount", "I", false)
  | 17 => ("MakerStarts$Member", "target", "LMakerStarts$Member;", false)
  | 18 => ("MakerStarts$Member", "orders", "I", false)
  | _ => ("MakerStarts$Member", "entry", "I", false)
def tyX5 : Nat → FieldType := fun k => match k with
  | 0 => .object "MakerStarts$Type"
  | 1 => .int
  | 2 => .int
  | 3 => .boolean
  | 4 => .long
  | 5 => .int
  | 6 => .int
  | 7 => .int
  | 8 => .int
  | 9 => .int
  | 10 => .int
  | 11 => .array .long
  | 12 => .int
  | 13 => .int
  | 14 => .int
  | 15 => .int
  | 16 => .int
  | 17 => .object "MakerStarts$Member"
  | 18 => .int
  | _ => .int
theorem nmX5 : ∀ a, a < 20 → ∀ b, b < 20 → a ≠ b → (TX5 a).2.1 ≠ (TX5 b).2.1 := by decide +kernel
theorem tyX5_ok : ∀ k, k < 20 → parseFieldDescriptor (TX5 k).2.2.1 = some (tyX5 k) := by decide +kernel
abbrev cX5_init : ByteArray := prog_7_method_1_code
def yX5_init : MethodName := ⟨RX5, "<init>", "(LMakerStarts$Type;I)V"⟩
abbrev cX5_slot : ByteArray := prog_7_method_2_code
def yX5_slot : MethodName := ⟨RX5, "slot", "()I"⟩
abbrev cX5_number : ByteArray := prog_7_method_3_code
def yX5_number : MethodName := ⟨RX5, "number", "()I"⟩
abbrev cX5_isInitial : ByteArray := prog_7_method_4_code
def yX5_isInitial : MethodName := ⟨RX5, "isInitial", "()Z"⟩
abbrev cX5_isAbove : ByteArray := prog_7_method_5_code
def yX5_isAbove : MethodName := ⟨RX5, "isAbove", "(LMakerStarts$Member;)Z"⟩
abbrev cX5_addParameter : ByteArray := prog_7_method_6_code
def yX5_addParameter : MethodName := ⟨RX5, "addParameter", "(J)V"⟩
abbrev cX5_parameterNamed : ByteArray := prog_7_method_7_code
def yX5_parameterNamed : MethodName := ⟨RX5, "parameterNamed", "(J)I"⟩
def RX6 : String := "MakerStarts$Reader"
def TX6 : u_T := fun k => match k with
  | 0 => ("MakerStarts$Reader", "tokens", "LMakerStarts$Tokens;", true)
  | 1 => ("MakerStarts$Reader", "bodies", "LMakerStarts$Bodies;", true)
  | _ => ("MakerStarts$Reader", "text", "LMakerStarts$Text;", false)
def tyX6 : Nat → FieldType := fun k => match k with
  | 0 => .object "MakerStarts$Tokens"
  | 1 => .object "MakerStarts$Bodies"
  | _ => .object "MakerStarts$Text"
theorem nmX6 : ∀ a, a < 3 → ∀ b, b < 3 → a ≠ b → (TX6 a).2.1 ≠ (TX6 b).2.1 := by decide +kernel
theorem tyX6_ok : ∀ k, k < 3 → parseFieldDescriptor (TX6 k).2.2.1 = some (tyX6 k) := by decide +kernel
abbrev cX6_init : ByteArray := prog_8_method_1_code
def yX6_init : MethodName := ⟨RX6, "<init>", "()V"⟩
abbrev cX6_reads : ByteArray := prog_8_method_2_code
def yX6_reads : MethodName := ⟨RX6, "reads", "([BILMakerStarts$Text;)Z"⟩
abbrev cX6_head : ByteArray := prog_8_method_3_code
def yX6_head : MethodName := ⟨RX6, "head", "()LMakerStarts$Type;"⟩
abbrev cX6_silentMaker : ByteArray := prog_8_method_4_code
def yX6_silentMaker : MethodName := ⟨RX6, "silentMaker", "(LMakerStarts$Type;)LMakerStarts$Member;"⟩
abbrev cX6_startsMember : ByteArray := prog_8_method_5_code
def yX6_startsMember : MethodName := ⟨RX6, "startsMember", "()Z"⟩
abbrev cX6_open : ByteArray := prog_8_method_6_code
def yX6_open : MethodName := ⟨RX6, "open", "(LMakerStarts$Type;)LMakerStarts$Member;"⟩
abbrev cX6_nameMember : ByteArray := prog_8_method_7_code
def yX6_nameMember : MethodName := ⟨RX6, "nameMember", "(LMakerStarts$Member;II)V"⟩
abbrev cX6_fieldMember : ByteArray := prog_8_method_8_code
def yX6_fieldMember : MethodName := ⟨RX6, "fieldMember", "(LMakerStarts$Member;)V"⟩
abbrev cX6_constMember : ByteArray := prog_8_method_9_code
def yX6_constMember : MethodName := ⟨RX6, "constMember", "(LMakerStarts$Member;)V"⟩
abbrev cX6_blockMember : ByteArray := prog_8_method_10_code
def yX6_blockMember : MethodName := ⟨RX6, "blockMember", "(LMakerStarts$Member;)V"⟩
abbrev cX6_actMember : ByteArray := prog_8_method_11_code
def yX6_actMember : MethodName := ⟨RX6, "actMember", "(LMakerStarts$Member;)V"⟩
abbrev cX6_makerMember : ByteArray := prog_8_method_12_code
def yX6_makerMember : MethodName := ⟨RX6, "makerMember", "(LMakerStarts$Member;)V"⟩
abbrev cX6_parameters : ByteArray := prog_8_method_13_code
def yX6_parameters : MethodName := ⟨RX6, "parameters", "(LMakerStarts$Member;)V"⟩
abbrev cX6_failures : ByteArray := prog_8_method_14_code
def yX6_failures : MethodName := ⟨RX6, "failures", "(LMakerStarts$Member;)V"⟩
abbrev cX6_otherMaker : ByteArray := prog_8_method_15_code
def yX6_otherMaker : MethodName := ⟨RX6, "otherMaker", "(LMakerStarts$Member;)V"⟩
def RX7 : String := "MakerStarts$Text"
def TX7 : u_T := fun k => match k with
  | 0 => ("MakerStarts$Text", "types", "[LMakerStarts$Type;", true)
  | 1 => ("MakerStarts$Text", "count", "I", false)
  | 2 => ("MakerStarts$Text", "uses", "Ljava/util/ArrayList;", true)
  | 3 => ("MakerStarts$Text", "code", "[I", true)
  | 4 => ("MakerStarts$Text", "size", "I", false)
  | 5 => ("MakerStarts$Text", "shape", "[I", true)
  | 6 => ("MakerStarts$Text", "shapes", "I", false)
  | 7 => ("MakerStarts$Text", "fault", "I", false)
  | _ => ("MakerStarts$Text", "faultPlace", "I", false)
def tyX7 : Nat → FieldType := fun k => match k with
  | 0 => .array (.object "MakerStarts$Type")
  | 1 => .int
  | 2 => .object "java/util/ArrayList"
  | 3 => .array .int
  | 4 => .int
  | 5 => .array .int
  | 6 => .int
  | 7 => .int
  | _ => .int
theorem nmX7 : ∀ a, a < 9 → ∀ b, b < 9 → a ≠ b → (TX7 a).2.1 ≠ (TX7 b).2.1 := by decide +kernel
theorem tyX7_ok : ∀ k, k < 9 → parseFieldDescriptor (TX7 k).2.2.1 = some (tyX7 k) := by decide +kernel
abbrev cX7_init : ByteArray := prog_9_method_1_code
def yX7_init : MethodName := ⟨RX7, "<init>", "()V"⟩
abbrev cX7_clear : ByteArray := prog_9_method_2_code
def yX7_clear : MethodName := ⟨RX7, "clear", "()V"⟩
abbrev cX7_note : ByteArray := prog_9_method_3_code
def yX7_note : MethodName := ⟨RX7, "note", "(II)V"⟩
abbrev cX7_typeAt : ByteArray := prog_9_method_4_code
def yX7_typeAt : MethodName := ⟨RX7, "typeAt", "(I)LMakerStarts$Type;"⟩
abbrev cX7_typeNamed : ByteArray := prog_9_method_5_code
def yX7_typeNamed : MethodName := ⟨RX7, "typeNamed", "(J)LMakerStarts$Type;"⟩
abbrev cX7_add : ByteArray := prog_9_method_6_code
def yX7_add : MethodName := ⟨RX7, "add", "(LMakerStarts$Type;)V"⟩
abbrev cX7_useAt : ByteArray := prog_9_method_7_code
def yX7_useAt : MethodName := ⟨RX7, "useAt", "(I)LMakerStarts$Use;"⟩
abbrev cX7_memberAt : ByteArray := prog_9_method_8_code
def yX7_memberAt : MethodName := ⟨RX7, "memberAt", "(I)LMakerStarts$Member;"⟩
abbrev cX7_makerAt : ByteArray := prog_9_method_9_code
def yX7_makerAt : MethodName := ⟨RX7, "makerAt", "(I)LMakerStarts$Member;"⟩
abbrev cX7_codeAt : ByteArray := prog_9_method_10_code
def yX7_codeAt : MethodName := ⟨RX7, "codeAt", "(I)I"⟩
abbrev cX7_put : ByteArray := prog_9_method_11_code
def yX7_put : MethodName := ⟨RX7, "put", "(I)V"⟩
abbrev cX7_put_ : ByteArray := prog_9_method_12_code
def yX7_put_ : MethodName := ⟨RX7, "put", "(II)V"⟩
abbrev cX7_patch : ByteArray := prog_9_method_13_code
def yX7_patch : MethodName := ⟨RX7, "patch", "(II)V"⟩
abbrev cX7_form : ByteArray := prog_9_method_14_code
def yX7_form : MethodName := ⟨RX7, "form", "(III)V"⟩
abbrev cX7_shapeAt : ByteArray := prog_9_method_15_code
def yX7_shapeAt : MethodName := ⟨RX7, "shapeAt", "(I)I"⟩
abbrev cX7_link : ByteArray := prog_9_method_16_code
def yX7_link : MethodName := ⟨RX7, "link", "()V"⟩
abbrev cX7_order : ByteArray := prog_9_method_17_code
def yX7_order : MethodName := ⟨RX7, "order", "()V"⟩
abbrev cX7_orderMembers : ByteArray := prog_9_method_18_code
def yX7_orderMembers : MethodName := ⟨RX7, "orderMembers", "(LMakerStarts$Type;Z)V"⟩
abbrev cX7_orderMaker : ByteArray := prog_9_method_19_code
def yX7_orderMaker : MethodName := ⟨RX7, "orderMaker", "(LMakerStarts$Type;LMakerStarts$Member;)V"⟩
def RX8 : String := "MakerStarts$Tokens"
def TX8 : u_T := fun k => match k with
  | 0 => ("MakerStarts$Tokens", "kinds", "[I", true)
  | 1 => ("MakerStarts$Tokens", "places", "[I", true)
  | 2 => ("MakerStarts$Tokens", "words", "[J", true)
  | 3 => ("MakerStarts$Tokens", "keys", "[J", true)
  | 4 => ("MakerStarts$Tokens", "count", "I", false)
  | 5 => ("MakerStarts$Tokens", "length", "I", false)
  | 6 => ("MakerStarts$Tokens", "at", "I", false)
  | 7 => ("MakerStarts$Tokens", "fault", "I", false)
  | _ => ("MakerStarts$Tokens", "faultPlace", "I", false)
def tyX8 : Nat → FieldType := fun k => match k with
  | 0 => .array .int
  | 1 => .array .int
  | 2 => .array .long
  | 3 => .array .long
  | 4 => .int
  | 5 => .int
  | 6 => .int
  | 7 => .int
  | _ => .int
theorem nmX8 : ∀ a, a < 9 → ∀ b, b < 9 → a ≠ b → (TX8 a).2.1 ≠ (TX8 b).2.1 := by decide +kernel
theorem tyX8_ok : ∀ k, k < 9 → parseFieldDescriptor (TX8 k).2.2.1 = some (tyX8 k) := by decide +kernel
abbrev cX8_init : ByteArray := prog_10_method_1_code
def yX8_init : MethodName := ⟨RX8, "<init>", "()V"⟩
abbrev cX8_scan : ByteArray := prog_10_method_2_code
def yX8_scan : MethodName := ⟨RX8, "scan", "([BI)V"⟩
abbrev cX8_goesOn : ByteArray := prog_10_method_3_code
def yX8_goesOn : MethodName := ⟨RX8, "goesOn", "(I)Z"⟩
abbrev cX8_lengthen : ByteArray := prog_10_method_4_code
def yX8_lengthen : MethodName := ⟨RX8, "lengthen", "(I)V"⟩
abbrev cX8_open : ByteArray := prog_10_method_5_code
def yX8_open : MethodName := ⟨RX8, "open", "(II)V"⟩
abbrev cX8_findKeys : ByteArray := prog_10_method_6_code
def yX8_findKeys : MethodName := ⟨RX8, "findKeys", "()V"⟩
abbrev cX8_isDigit : ByteArray := prog_10_method_7_code
def yX8_isDigit : MethodName := ⟨RX8, "isDigit", "(I)Z"⟩
abbrev cX8_isLetter : ByteArray := prog_10_method_8_code
def yX8_isLetter : MethodName := ⟨RX8, "isLetter", "(I)Z"⟩
abbrev cX8_is : ByteArray := prog_10_method_9_code
def yX8_is : MethodName := ⟨RX8, "is", "(I)Z"⟩
abbrev cX8_take : ByteArray := prog_10_method_10_code
def yX8_take : MethodName := ⟨RX8, "take", "(I)Z"⟩
abbrev cX8_need : ByteArray := prog_10_method_11_code
def yX8_need : MethodName := ⟨RX8, "need", "(I)V"⟩
abbrev cX8_needWord : ByteArray := prog_10_method_12_code
def yX8_needWord : MethodName := ⟨RX8, "needWord", "(I)J"⟩
abbrev cX8_kind : ByteArray := prog_10_method_13_code
def yX8_kind : MethodName := ⟨RX8, "kind", "()I"⟩
abbrev cX8_spot : ByteArray := prog_10_method_14_code
def yX8_spot : MethodName := ⟨RX8, "spot", "()I"⟩
abbrev cX8_fail : ByteArray := prog_10_method_15_code
def yX8_fail : MethodName := ⟨RX8, "fail", "(I)V"⟩
def RX9 : String := "MakerStarts$Type"
def TX9 : u_T := fun k => match k with
  | 0 => ("MakerStarts$Type", "index", "I", true)
  | 1 => ("MakerStarts$Type", "name", "J", false)
  | 2 => ("MakerStarts$Type", "place", "I", false)
  | 3 => ("MakerStarts$Type", "parent", "LMakerStarts$Type;", false)
  | 4 => ("MakerStarts$Type", "members", "[LMakerStarts$Member;", true)
  | 5 => ("MakerStarts$Type", "count", "I", false)
  | 6 => ("MakerStarts$Type", "makers", "[LMakerStarts$Member;", true)
  | 7 => ("MakerStarts$Type", "makerCount", "I", false)
  | 8 => ("MakerStarts$Type", "fieldCount", "I", false)
  | 9 => ("MakerStarts$Type", "orders", "I", false)
  | _ => ("MakerStarts$Type", "entry", "I", false)
def tyX9 : Nat → FieldType := fun k => match k with
  | 0 => .int
  | 1 => .long
  | 2 => .int
  | 3 => .object "MakerStarts$Type"
  | 4 => .array (.object "MakerStarts$Member")
  | 5 => .int
  | 6 => .array (.object "MakerStarts$Member")
  | 7 => .int
  | 8 => .int
  | 9 => .int
  | _ => .int
theorem nmX9 : ∀ a, a < 11 → ∀ b, b < 11 → a ≠ b → (TX9 a).2.1 ≠ (TX9 b).2.1 := by decide +kernel
theorem tyX9_ok : ∀ k, k < 11 → parseFieldDescriptor (TX9 k).2.2.1 = some (tyX9 k) := by decide +kernel
abbrev cX9_init : ByteArray := prog_11_method_1_code
def yX9_init : MethodName := ⟨RX9, "<init>", "(I)V"⟩
abbrev cX9_add : ByteArray := prog_11_method_2_code
def yX9_add : MethodName := ⟨RX9, "add", "(LMakerStarts$Member;)V"⟩
abbrev cX9_memberAt : ByteArray := prog_11_method_3_code
def yX9_memberAt : MethodName := ⟨RX9, "memberAt", "(I)LMakerStarts$Member;"⟩
abbrev cX9_maker : ByteArray := prog_11_method_4_code
def yX9_maker : MethodName := ⟨RX9, "maker", "(I)LMakerStarts$Member;"⟩
abbrev cX9_setMaker : ByteArray := prog_11_method_5_code
def yX9_setMaker : MethodName := ⟨RX9, "setMaker", "(ILMakerStarts$Member;)V"⟩
abbrev cX9_own : ByteArray := prog_11_method_6_code
def yX9_own : MethodName := ⟨RX9, "own", "(JI)LMakerStarts$Member;"⟩
abbrev cX9_find : ByteArray := prog_11_method_7_code
def yX9_find : MethodName := ⟨RX9, "find", "(JI)LMakerStarts$Member;"⟩
abbrev cX9_isBelow : ByteArray := prog_11_method_8_code
def yX9_isBelow : MethodName := ⟨RX9, "isBelow", "(LMakerStarts$Type;)Z"⟩
def RX10 : String := "MakerStarts$Use"
def TX10 : u_T := fun k => match k with
  | 0 => ("MakerStarts$Use", "member", "LMakerStarts$Member;", true)
  | 1 => ("MakerStarts$Use", "still", "Z", true)
  | 2 => ("MakerStarts$Use", "kind", "I", false)
  | 3 => ("MakerStarts$Use", "ahead", "Z", false)
  | 4 => ("MakerStarts$Use", "place", "I", true)
  | 5 => ("MakerStarts$Use", "namePlace", "I", false)
  | 6 => ("MakerStarts$Use", "name", "J", false)
  | 7 => ("MakerStarts$Use", "owner", "J", false)
  | 8 => ("MakerStarts$Use", "count", "I", false)
  | 9 => ("MakerStarts$Use", "parameter", "I", false)
  | 10 => ("MakerStarts$Use", "means", "LMakerStarts$Member;", false)
  | _ => ("MakerStarts$Use", "at", "I", false)
def tyX10 : Nat → FieldType := fun k => match k with
  | 0 => .object "MakerStarts$Member"
  | 1 => .boolean
  | 2 => .int
  | 3 => .boolean
  | 4 => .int
  | 5 => .int
  | 6 => .long
  | 7 => .long
  | 8 => .int
  | 9 => .int
  | 10 => .object "MakerStarts$Member"
  | _ => .int
theorem nmX10 : ∀ a, a < 12 → ∀ b, b < 12 → a ≠ b → (TX10 a).2.1 ≠ (TX10 b).2.1 := by decide +kernel
theorem tyX10_ok : ∀ k, k < 12 → parseFieldDescriptor (TX10 k).2.2.1 = some (tyX10 k) := by decide +kernel
abbrev cX10_init : ByteArray := prog_12_method_1_code
def yX10_init : MethodName := ⟨RX10, "<init>", "(LMakerStarts$Member;ZIJ)V"⟩
abbrev cX10_op : ByteArray := prog_12_method_2_code
def yX10_op : MethodName := ⟨RX10, "op", "()I"⟩
abbrev cX10_operand : ByteArray := prog_12_method_3_code
def yX10_operand : MethodName := ⟨RX10, "operand", "()I"⟩
def RX11 : String := "MakerStarts"
def TX11 : u_T := fun k => match k with
  | 0 => ("MakerStarts", "tape", "[B", true)
  | 1 => ("MakerStarts", "bytes", "I", false)
  | 2 => ("MakerStarts", "faultPlace", "I", false)
  | 3 => ("MakerStarts", "text", "LMakerStarts$Text;", false)
  | 4 => ("MakerStarts", "spare", "LMakerStarts$Text;", false)
  | 5 => ("MakerStarts", "reader", "LMakerStarts$Reader;", true)
  | 6 => ("MakerStarts", "flow", "LMakerStarts$Flow;", true)
  | _ => ("MakerStarts", "machine", "LMakerStarts$Machine;", true)
def tyX11 : Nat → FieldType := fun k => match k with
  | 0 => .array .byte
  | 1 => .int
  | 2 => .int
  | 3 => .object "MakerStarts$Text"
  | 4 => .object "MakerStarts$Text"
  | 5 => .object "MakerStarts$Reader"
  | 6 => .object "MakerStarts$Flow"
  | _ => .object "MakerStarts$Machine"
theorem nmX11 : ∀ a, a < 8 → ∀ b, b < 8 → a ≠ b → (TX11 a).2.1 ≠ (TX11 b).2.1 := by decide +kernel
theorem tyX11_ok : ∀ k, k < 8 → parseFieldDescriptor (TX11 k).2.2.1 = some (tyX11 k) := by decide +kernel
abbrev cX11_init : ByteArray := prog_1_method_1_code
def yX11_init : MethodName := ⟨RX11, "<init>", "()V"⟩
abbrev cX11_feed : ByteArray := prog_1_method_2_code
def yX11_feed : MethodName := ⟨RX11, "feed", "(JI)I"⟩
abbrev cX11_read : ByteArray := prog_1_method_3_code
def yX11_read : MethodName := ⟨RX11, "read", "()I"⟩
abbrev cX11_place : ByteArray := prog_1_method_4_code
def yX11_place : MethodName := ⟨RX11, "place", "()I"⟩
abbrev cX11_told : ByteArray := prog_1_method_5_code
def yX11_told : MethodName := ⟨RX11, "told", "(I)I"⟩
abbrev cX11_type : ByteArray := prog_1_method_6_code
def yX11_type : MethodName := ⟨RX11, "type", "(II)I"⟩
abbrev cX11_make : ByteArray := prog_1_method_7_code
def yX11_make : MethodName := ⟨RX11, "make", "(IIIII)I"⟩
abbrev cX11_start : ByteArray := prog_1_method_8_code
def yX11_start : MethodName := ⟨RX11, "start", "(I)I"⟩
abbrev cX11_marked : ByteArray := prog_1_method_9_code
def yX11_marked : MethodName := ⟨RX11, "marked", "(I)I"⟩
abbrev cX11_field : ByteArray := prog_1_method_10_code
def yX11_field : MethodName := ⟨RX11, "field", "(II)I"⟩
abbrev cX11_held : ByteArray := prog_1_method_11_code
def yX11_held : MethodName := ⟨RX11, "held", "(II)I"⟩
abbrev cX11_fails : ByteArray := prog_1_method_12_code
def yX11_fails : MethodName := ⟨RX11, "fails", "(II)I"⟩
def RX12 : String := "MakerStartsModel"
def TX12 : u_T := fun k => match k with
  | 0 => ("MakerStartsModel", "code", "I", false)
  | 1 => ("MakerStartsModel", "tape", "[B", true)
  | 2 => ("MakerStartsModel", "size", "I", false)
  | 3 => ("MakerStartsModel", "latest", "I", false)
  | 4 => ("MakerStartsModel", "words", "[J", true)
  | 5 => ("MakerStartsModel", "at", "I", false)
  | 6 => ("MakerStartsModel", "token", "I", false)
  | 7 => ("MakerStartsModel", "where", "I", false)
  | 8 => ("MakerStartsModel", "value", "J", false)
  | 9 => ("MakerStartsModel", "fault", "I", false)
  | 10 => ("MakerStartsModel", "faultPlace", "I", false)
  | 11 => ("MakerStartsModel", "laterFault", "I", false)
  | 12 => ("MakerStartsModel", "laterPlace", "I", false)
  | 13 => ("MakerStartsModel", "name", "J", false)
  | 14 => ("MakerStartsModel", "namePlace", "I", false)
  | 15 => ("MakerStartsModel", "half", "I", false)
  | 16 => ("MakerStartsModel", "h", "I", false)
  | 17 => ("MakerStartsModel", "typeMany", "[I", true)
  | 18 => ("MakerStartsModel", "tName", "[J", true)
  | 19 => ("MakerStartsModel", "tPlace", "[I", true)
  | 20 => ("MakerStartsModel", "tUpName", "[J", true)
  | 21 => ("MakerStartsModel", "tUpPlace", "[I", true)
  | 22 => ("MakerStartsModel", "tUp", "[I", true)
  | 23 => ("MakerStartsModel", "tMembers", "[I", true)
  | 24 => ("MakerStartsModel", "mKind", "[I", true)
  | 25 => ("MakerStartsModel", "mName", "[J", true)
  | 26 => ("MakerStartsModel", "mPlace", "[I", true)
  | 27 => ("MakerStartsModel", "mFirst", "[I", true)
  | 28 => ("MakerStartsModel", "mExp", "[I", true)
  | 29 => ("MakerStartsModel", "mBody", "[I", true)
  | 30 => ("MakerStartsModel", "mParams", "[I", true)
  | 31 => ("MakerStartsModel", "mParam", "[J", true)
  | 32 => ("MakerStartsModel", "mFails", "[I", true)
  | 33 => ("MakerStartsModel", "mLead", "[I", true)
  | 34 => ("MakerStartsModel", "mLeadExp", "[I", true)
  | 35 => ("MakerStartsModel", "mLeadMany", "[I", true)
  | 36 => ("MakerStartsModel", "mLeadPlace", "[I", true)
  | 37 => ("MakerStartsModel", "mLeadsTo", "[I", true)
  | 38 => ("MakerStartsModel", "mHeld", "[I", true)
  | 39 => ("MakerStartsModel", "nKind", "[I", true)
  | 40 => ("MakerStartsModel", "nA", "[I", true)
  | 41 => ("MakerStartsModel", "nB", "[I", true)
  | 42 => ("MakerStartsModel", "nC", "[I", true)
  | 43 => ("MakerStartsModel", "nD", "[I", true)
  | 44 => ("MakerStartsModel", "nNext", "[I", true)
  | 45 => ("MakerStartsModel", "nPlace", "[I", true)
  | 46 => ("MakerStartsModel", "nName", "[J", true)
  | 47 => ("MakerStartsModel", "nOf", "[J", true)
  | 48 => ("MakerStartsModel", "nOfPlace", "[I", true)
  | 49 => ("MakerStartsModel", "nodes", "I", false)
  | 50 => ("MakerStartsModel", "statements", "I", false)
  | 51 => ("MakerStartsModel", "nest", "I", false)
  | 52 => ("MakerStartsModel", "type", "I", false)
  | 53 => ("MakerStartsModel", "member", "I", false)
  | 54 => ("MakerStartsModel", "inAct", "Z", false)
  | 55 => ("MakerStartsModel", "listed", "I", false)
  | 56 => ("MakerStartsModel", "isFixedPlace", "Z", false)
  | 57 => ("MakerStartsModel", "isConst", "Z", false)
  | 58 => ("MakerStartsModel", "isOrdered", "Z", false)
  | 59 => ("MakerStartsModel", "tState", "[I", true)
  | 60 => ("MakerStartsModel", "marked", "[I", true)
  | 61 => ("MakerStartsModel", "marks", "I", false)
  | 62 => ("MakerStartsModel", "things", "I", false)
  | 63 => ("MakerStartsModel", "steps", "I", false)
  | 64 => ("MakerStartsModel", "depth", "I", false)
  | 65 => ("MakerStartsModel", "out", "I", false)
  | 66 => ("MakerStartsModel", "returned", "I", false)
  | 67 => ("MakerStartsModel", "params", "[I", true)
  | 68 => ("MakerStartsModel", "thingType", "[I", true)
  | 69 => ("MakerStartsModel", "cells", "[I", true)
  | 70 => ("MakerStartsModel", "made", "I", false)
  | 71 => ("MakerStartsModel", "thing", "I", false)
  | 72 => ("MakerStartsModel", "self", "I", false)
  | _ => ("MakerStartsModel", "args", "[I", true)
def tyX12 : Nat → FieldType := fun k => match k with
  | 0 => .int
  | 1 => .array .byte
  | 2 => .int
  | 3 => .int
  | 4 => .array .long
  | 5 => .int
  | 6 => .int
  | 7 => .int
  | 8 => .long
  | 9 => .int
  | 10 => .int
  | 11 => .int
  | 12 => .int
  | 13 => .long
  | 14 => .int
  | 15 => .int
  | 16 => .int
  | 17 => .array .int
  | 18 => .array .long
  | 19 => .array .int
  | 20 => .array .long
  | 21 => .array .int
  | 22 => .array .int
  | 23 => .array .int
  | 24 => .array .int
  | 25 => .array .long
  | 26 => .array .int
  | 27 => .array .int
  | 28 => .array .int
  | 29 => .array .int
  | 30 => .array .int
  | 31 => .array .long
  | 32 => .array .int
  | 33 => .array .int
  | 34 => .array .int
  | 35 => .array .int
  | 36 => .array .int
  | 37 => .array .int
  | 38 => .array .int
  | 39 => .array .int
  | 40 => .array .int
  | 41 => .array .int
  | 42 => .array .int
  | 43 => .array .int
  | 44 => .array .int
  | 45 => .array .int
  | 46 => .array .long
  | 47 => .array .long
  | 48 => .array .int
  | 49 => .int
  | 50 => .int
  | 51 => .int
  | 52 => .int
  | 53 => .int
  | 54 => .boolean
  | 55 => .int
  | 56 => .boolean
  | 57 => .boolean
  | 58 => .boolean
  | 59 => .array .int
  | 60 => .array .int
  | 61 => .int
  | 62 => .int
  | 63 => .int
  | 64 => .int
  | 65 => .int
  | 66 => .int
  | 67 => .array .int
  | 68 => .array .int
  | 69 => .array .int
  | 70 => .int
  | 71 => .int
  | 72 => .int
  | _ => .array .int
theorem nmX12 : ∀ a, a < 74 → ∀ b, b < 74 → a ≠ b → (TX12 a).2.1 ≠ (TX12 b).2.1 := by decide +kernel
theorem tyX12_ok : ∀ k, k < 74 → parseFieldDescriptor (TX12 k).2.2.1 = some (tyX12 k) := by decide +kernel
abbrev cX12_init : ByteArray := prog_14_method_1_code
def yX12_init : MethodName := ⟨RX12, "<init>", "()V"⟩
abbrev cX12_feed : ByteArray := prog_14_method_3_code
def yX12_feed : MethodName := ⟨RX12, "feed", "(JI)I"⟩
abbrev cX12_isSmall : ByteArray := prog_14_method_4_code
def yX12_isSmall : MethodName := ⟨RX12, "isSmall", "(I)Z"⟩
abbrev cX12_isDigit : ByteArray := prog_14_method_5_code
def yX12_isDigit : MethodName := ⟨RX12, "isDigit", "(I)Z"⟩
abbrev cX12_next : ByteArray := prog_14_method_6_code
def yX12_next : MethodName := ⟨RX12, "next", "()V"⟩
abbrev cX12_word : ByteArray := prog_14_method_7_code
def yX12_word : MethodName := ⟨RX12, "word", "()V"⟩
abbrev cX12_fail : ByteArray := prog_14_method_8_code
def yX12_fail : MethodName := ⟨RX12, "fail", "(II)V"⟩
abbrev cX12_odd : ByteArray := prog_14_method_9_code
def yX12_odd : MethodName := ⟨RX12, "odd", "()V"⟩
abbrev cX12_later : ByteArray := prog_14_method_10_code
def yX12_later : MethodName := ⟨RX12, "later", "(II)V"⟩
abbrev cX12_is : ByteArray := prog_14_method_11_code
def yX12_is : MethodName := ⟨RX12, "is", "(I)Z"⟩
abbrev cX12_takes : ByteArray := prog_14_method_12_code
def yX12_takes : MethodName := ⟨RX12, "takes", "(I)Z"⟩
abbrev cX12_take : ByteArray := prog_14_method_13_code
def yX12_take : MethodName := ⟨RX12, "take", "(I)V"⟩
abbrev cX12_takeName : ByteArray := prog_14_method_14_code
def yX12_takeName : MethodName := ⟨RX12, "takeName", "()V"⟩
abbrev cX12_node : ByteArray := prog_14_method_15_code
def yX12_node : MethodName := ⟨RX12, "node", "(II)I"⟩
abbrev cX12_opens : ByteArray := prog_14_method_16_code
def yX12_opens : MethodName := ⟨RX12, "opens", "()V"⟩
abbrev cX12_exp : ByteArray := prog_14_method_17_code
def yX12_exp : MethodName := ⟨RX12, "exp", "()I"⟩
abbrev cX12_term : ByteArray := prog_14_method_18_code
def yX12_term : MethodName := ⟨RX12, "term", "()I"⟩
abbrev cX12_factor : ByteArray := prog_14_method_19_code
def yX12_factor : MethodName := ⟨RX12, "factor", "()I"⟩
abbrev cX12_list : ByteArray := prog_14_method_20_code
def yX12_list : MethodName := ⟨RX12, "list", "()I"⟩
abbrev cX12_body : ByteArray := prog_14_method_21_code
def yX12_body : MethodName := ⟨RX12, "body", "()I"⟩
abbrev cX12_statement : ByteArray := prog_14_method_22_code
def yX12_statement : MethodName := ⟨RX12, "statement", "()I"⟩
abbrev cX12_number : ByteArray := prog_14_method_23_code
def yX12_number : MethodName := ⟨RX12, "number", "(I)I"⟩
abbrev cX12_readTry : ByteArray := prog_14_method_24_code
def yX12_readTry : MethodName := ⟨RX12, "readTry", "(I)V"⟩
abbrev cX12_readMember : ByteArray := prog_14_method_25_code
def yX12_readMember : MethodName := ⟨RX12, "readMember", "()V"⟩
abbrev cX12_tellName : ByteArray := prog_14_method_26_code
def yX12_tellName : MethodName := ⟨RX12, "tellName", "()V"⟩
abbrev cX12_readMaker : ByteArray := prog_14_method_27_code
def yX12_readMaker : MethodName := ⟨RX12, "readMaker", "()V"⟩
abbrev cX12_readType : ByteArray := prog_14_method_28_code
def yX12_readType : MethodName := ⟨RX12, "readType", "()V"⟩
abbrev cX12_typeNamed : ByteArray := prog_14_method_29_code
def yX12_typeNamed : MethodName := ⟨RX12, "typeNamed", "(JI)I"⟩
abbrev cX12_meant : ByteArray := prog_14_method_30_code
def yX12_meant : MethodName := ⟨RX12, "meant", "(IJZ)I"⟩
abbrev cX12_actOf : ByteArray := prog_14_method_31_code
def yX12_actOf : MethodName := ⟨RX12, "actOf", "(IJ)I"⟩
abbrev cX12_paramOf : ByteArray := prog_14_method_32_code
def yX12_paramOf : MethodName := ⟨RX12, "paramOf", "(IJ)I"⟩
abbrev cX12_hasMakers : ByteArray := prog_14_method_33_code
def yX12_hasMakers : MethodName := ⟨RX12, "hasMakers", "(I)Z"⟩
abbrev cX12_makerOf : ByteArray := prog_14_method_34_code
def yX12_makerOf : MethodName := ⟨RX12, "makerOf", "(II)I"⟩
abbrev cX12_judgeName : ByteArray := prog_14_method_35_code
def yX12_judgeName : MethodName := ⟨RX12, "judgeName", "(IZ)V"⟩
abbrev cX12_judgeOf : ByteArray := prog_14_method_36_code
def yX12_judgeOf : MethodName := ⟨RX12, "judgeOf", "(IZ)V"⟩
abbrev cX12_judgeExp : ByteArray := prog_14_method_37_code
def yX12_judgeExp : MethodName := ⟨RX12, "judgeExp", "(I)V"⟩
abbrev cX12_judgeList : ByteArray := prog_14_method_38_code
def yX12_judgeList : MethodName := ⟨RX12, "judgeList", "(I)V"⟩
abbrev cX12_judgeBody : ByteArray := prog_14_method_39_code
def yX12_judgeBody : MethodName := ⟨RX12, "judgeBody", "(I)V"⟩
abbrev cX12_judgeStatement : ByteArray := prog_14_method_40_code
def yX12_judgeStatement : MethodName := ⟨RX12, "judgeStatement", "(I)V"⟩
abbrev cX12_judgeNames : ByteArray := prog_14_method_41_code
def yX12_judgeNames : MethodName := ⟨RX12, "judgeNames", "(I)V"⟩
abbrev cX12_judgeLead : ByteArray := prog_14_method_42_code
def yX12_judgeLead : MethodName := ⟨RX12, "judgeLead", "(I)V"⟩
abbrev cX12_judgeTold : ByteArray := prog_14_method_43_code
def yX12_judgeTold : MethodName := ⟨RX12, "judgeTold", "(I)V"⟩
abbrev cX12_outBody : ByteArray := prog_14_method_44_code
def yX12_outBody : MethodName := ⟨RX12, "outBody", "(I)I"⟩
abbrev cX12_outOf : ByteArray := prog_14_method_45_code
def yX12_outOf : MethodName := ⟨RX12, "outOf", "(I)I"⟩
abbrev cX12_endsBody : ByteArray := prog_14_method_46_code
def yX12_endsBody : MethodName := ⟨RX12, "endsBody", "(I)Z"⟩
abbrev cX12_ends : ByteArray := prog_14_method_47_code
def yX12_ends : MethodName := ⟨RX12, "ends", "(I)Z"⟩
abbrev cX12_outOfBlocks : ByteArray := prog_14_method_48_code
def yX12_outOfBlocks : MethodName := ⟨RX12, "outOfBlocks", "(I)I"⟩
abbrev cX12_toldBy : ByteArray := prog_14_method_49_code
def yX12_toldBy : MethodName := ⟨RX12, "toldBy", "(I)I"⟩
abbrev cX12_outOfMaker : ByteArray := prog_14_method_50_code
def yX12_outOfMaker : MethodName := ⟨RX12, "outOfMaker", "(I)I"⟩
abbrev cX12_outOfType : ByteArray := prog_14_method_51_code
def yX12_outOfType : MethodName := ⟨RX12, "outOfType", "(I)I"⟩
abbrev cX12_judgeCatches : ByteArray := prog_14_method_52_code
def yX12_judgeCatches : MethodName := ⟨RX12, "judgeCatches", "(I)V"⟩
abbrev cX12_judgeOut : ByteArray := prog_14_method_53_code
def yX12_judgeOut : MethodName := ⟨RX12, "judgeOut", "(I)V"⟩
abbrev cX12_judgeRing : ByteArray := prog_14_method_54_code
def yX12_judgeRing : MethodName := ⟨RX12, "judgeRing", "(I)V"⟩
abbrev cX12_judge : ByteArray := prog_14_method_55_code
def yX12_judge : MethodName := ⟨RX12, "judge", "()V"⟩
abbrev cX12_read : ByteArray := prog_14_method_56_code
def yX12_read : MethodName := ⟨RX12, "read", "()I"⟩
abbrev cX12_holdConstants : ByteArray := prog_14_method_57_code
def yX12_holdConstants : MethodName := ⟨RX12, "holdConstants", "()V"⟩
abbrev cX12_constant : ByteArray := prog_14_method_58_code
def yX12_constant : MethodName := ⟨RX12, "constant", "(I)I"⟩
abbrev cX12_both : ByteArray := prog_14_method_59_code
def yX12_both : MethodName := ⟨RX12, "both", "(III)I"⟩
abbrev cX12_steps : ByteArray := prog_14_method_60_code
def yX12_steps : MethodName := ⟨RX12, "steps", "()Z"⟩
abbrev cX12_work : ByteArray := prog_14_method_61_code
def yX12_work : MethodName := ⟨RX12, "work", "(II)I"⟩
abbrev cX12_get : ByteArray := prog_14_method_62_code
def yX12_get : MethodName := ⟨RX12, "get", "(I)I"⟩
abbrev cX12_set : ByteArray := prog_14_method_63_code
def yX12_set : MethodName := ⟨RX12, "set", "(II)V"⟩
abbrev cX12_callAct : ByteArray := prog_14_method_64_code
def yX12_callAct : MethodName := ⟨RX12, "callAct", "(J)I"⟩
abbrev cX12_runBody : ByteArray := prog_14_method_65_code
def yX12_runBody : MethodName := ⟨RX12, "runBody", "(II)I"⟩
abbrev cX12_run : ByteArray := prog_14_method_66_code
def yX12_run : MethodName := ⟨RX12, "run", "(II)I"⟩
abbrev cX12_runTry : ByteArray := prog_14_method_67_code
def yX12_runTry : MethodName := ⟨RX12, "runTry", "(II)I"⟩
abbrev cX12_runNew : ByteArray := prog_14_method_68_code
def yX12_runNew : MethodName := ⟨RX12, "runNew", "(II)I"⟩
abbrev cX12_makes : ByteArray := prog_14_method_69_code
def yX12_makes : MethodName := ⟨RX12, "makes", "(IIIII)I"⟩
abbrev cX12_lead : ByteArray := prog_14_method_70_code
def yX12_lead : MethodName := ⟨RX12, "lead", "(IIII)V"⟩
abbrev cX12_leadOn : ByteArray := prog_14_method_71_code
def yX12_leadOn : MethodName := ⟨RX12, "leadOn", "(III)V"⟩
abbrev cX12_fill : ByteArray := prog_14_method_72_code
def yX12_fill : MethodName := ⟨RX12, "fill", "(II)V"⟩
abbrev cX12_begin : ByteArray := prog_14_method_73_code
def yX12_begin : MethodName := ⟨RX12, "begin", "(I)V"⟩
abbrev cX12_fresh : ByteArray := prog_14_method_74_code
def yX12_fresh : MethodName := ⟨RX12, "fresh", "()V"⟩
abbrev cX12_make : ByteArray := prog_14_method_75_code
def yX12_make : MethodName := ⟨RX12, "make", "(IIIII)I"⟩
abbrev cX12_start : ByteArray := prog_14_method_76_code
def yX12_start : MethodName := ⟨RX12, "start", "(I)I"⟩
abbrev cX12_place : ByteArray := prog_14_method_77_code
def yX12_place : MethodName := ⟨RX12, "place", "()I"⟩
abbrev cX12_told : ByteArray := prog_14_method_78_code
def yX12_told : MethodName := ⟨RX12, "told", "(I)I"⟩
abbrev cX12_type : ByteArray := prog_14_method_79_code
def yX12_type : MethodName := ⟨RX12, "type", "(II)I"⟩
abbrev cX12_marked : ByteArray := prog_14_method_80_code
def yX12_marked : MethodName := ⟨RX12, "marked", "(I)I"⟩
abbrev cX12_isBelow : ByteArray := prog_14_method_81_code
def yX12_isBelow : MethodName := ⟨RX12, "isBelow", "(II)Z"⟩
abbrev cX12_field : ByteArray := prog_14_method_82_code
def yX12_field : MethodName := ⟨RX12, "field", "(II)I"⟩
abbrev cX12_held : ByteArray := prog_14_method_83_code
def yX12_held : MethodName := ⟨RX12, "held", "(II)I"⟩
abbrev cX12_fails : ByteArray := prog_14_method_84_code
def yX12_fails : MethodName := ⟨RX12, "fails", "(II)I"⟩
def RJx145de : String := "java/io/Serializable"
def RJ11 : String := "java/lang/Character"
abbrev cJ11_isValidCodePoint_9a6ad : ByteArray := prog_16_method_11_code
def yJ11_isValidCodePoint_9a6ad : MethodName := ⟨RJ11, "isValidCodePoint", "(I)Z"⟩
abbrev cJ11_highSurrogate_5068e : ByteArray := prog_16_method_28_code
def yJ11_highSurrogate_5068e : MethodName := ⟨RJ11, "highSurrogate", "(I)C"⟩
abbrev cJ11_lowSurrogate_5068e : ByteArray := prog_16_method_29_code
def yJ11_lowSurrogate_5068e : MethodName := ⟨RJ11, "lowSurrogate", "(I)C"⟩
def RJx8e188 : String := "java/lang/Cloneable"
def RJxab1ab : String := "java/lang/Iterable"
def RJ9 : String := "java/lang/Math"
abbrev cJ9_max_7cf53 : ByteArray := prog_22_method_65_code
def yJ9_max_7cf53 : MethodName := ⟨RJ9, "max", "(II)I"⟩
abbrev cJ9_min_7cf53 : ByteArray := prog_22_method_69_code
def yJ9_min_7cf53 : MethodName := ⟨RJ9, "min", "(II)I"⟩
def RJ0 : String := "java/lang/String"
abbrev cJ0_length_8abf5 : ByteArray := prog_24_method_54_code
def yJ0_length_8abf5 : MethodName := ⟨RJ0, "length", "()I"⟩
abbrev cJ0_charAt_5068e : ByteArray := prog_24_method_56_code
def yJ0_charAt_5068e : MethodName := ⟨RJ0, "charAt", "(I)C"⟩
abbrev cJ0_indexOf_0f7a4 : ByteArray := prog_24_method_79_code
def yJ0_indexOf_0f7a4 : MethodName := ⟨RJ0, "indexOf", "(I)I"⟩
abbrev cJ0_indexOf_7cf53 : ByteArray := prog_24_method_80_code
def yJ0_indexOf_7cf53 : MethodName := ⟨RJ0, "indexOf", "(II)I"⟩
abbrev cJ0_coder_7d493 : ByteArray := prog_24_method_152_code
def yJ0_coder_7d493 : MethodName := ⟨RJ0, "coder", "()B"⟩
abbrev cJ0_isLatin1_aae02 : ByteArray := prog_24_method_154_code
def yJ0_isLatin1_aae02 : MethodName := ⟨RJ0, "isLatin1", "()Z"⟩
abbrev cJ0_checkIndex_df160 : ByteArray := prog_24_method_155_code
def yJ0_checkIndex_df160 : MethodName := ⟨RJ0, "checkIndex", "(II)V"⟩
abbrev cJ0_checkBoundsBeginEnd_23922 : ByteArray := prog_24_method_158_code
def yJ0_checkBoundsBeginEnd_23922 : MethodName := ⟨RJ0, "checkBoundsBeginEnd", "(III)V"⟩
def RJ1 : String := "java/lang/StringLatin1"
abbrev cJ1_charAt_3b067 : ByteArray := prog_25_method_2_code
def yJ1_charAt_3b067 : MethodName := ⟨RJ1, "charAt", "([BI)C"⟩
abbrev cJ1_canEncode_9a6ad : ByteArray := prog_25_method_4_code
def yJ1_canEncode_9a6ad : MethodName := ⟨RJ1, "canEncode", "(I)Z"⟩
abbrev cJ1_indexOf_4cfef : ByteArray := prog_25_method_22_code
def yJ1_indexOf_4cfef : MethodName := ⟨RJ1, "indexOf", "([BIII)I"⟩
abbrev cJ1_indexOfChar_4cfef : ByteArray := prog_25_method_23_code
def yJ1_indexOfChar_4cfef : MethodName := ⟨RJ1, "indexOfChar", "([BIII)I"⟩
def RJ2 : String := "java/lang/StringUTF16"
abbrev cJ2_getChar_3b067 : ByteArray := prog_26_method_5_code
def yJ2_getChar_3b067 : MethodName := ⟨RJ2, "getChar", "([BI)C"⟩
abbrev cJ2_length_9d52b : ByteArray := prog_26_method_6_code
def yJ2_length_9d52b : MethodName := ⟨RJ2, "length", "([B)I"⟩
abbrev cJ2_indexOf_4cfef : ByteArray := prog_26_method_40_code
def yJ2_indexOf_4cfef : MethodName := ⟨RJ2, "indexOf", "([BIII)I"⟩
abbrev cJ2_indexOfChar_4cfef : ByteArray := prog_26_method_47_code
def yJ2_indexOfChar_4cfef : MethodName := ⟨RJ2, "indexOfChar", "([BIII)I"⟩
abbrev cJ2_indexOfCharUnsafe_4cfef : ByteArray := prog_26_method_48_code
def yJ2_indexOfCharUnsafe_4cfef : MethodName := ⟨RJ2, "indexOfCharUnsafe", "([BIII)I"⟩
abbrev cJ2_indexOfSupplementary_4cfef : ByteArray := prog_26_method_49_code
def yJ2_indexOfSupplementary_4cfef : MethodName := ⟨RJ2, "indexOfSupplementary", "([BIII)I"⟩
abbrev cJ2_charAt_3b067 : ByteArray := prog_26_method_83_code
def yJ2_charAt_3b067 : MethodName := ⟨RJ2, "charAt", "([BI)C"⟩
abbrev cJ2_checkIndex_2214a : ByteArray := prog_26_method_91_code
def yJ2_checkIndex_2214a : MethodName := ⟨RJ2, "checkIndex", "(I[B)V"⟩
abbrev cJ2_checkBoundsBeginEnd_d044e : ByteArray := prog_26_method_93_code
def yJ2_checkBoundsBeginEnd_d044e : MethodName := ⟨RJ2, "checkBoundsBeginEnd", "(II[B)V"⟩
def RJ10 : String := "java/lang/System"
def RJxa1e45 : String := "java/util/AbstractCollection"
abbrev cJxa1e45_init_da8c8 : ByteArray := prog_29_method_1_code
def yJxa1e45_init_da8c8 : MethodName := ⟨RJxa1e45, "<init>", "()V"⟩
def RJxc12de : String := "java/util/AbstractList"
abbrev cJxc12de_init_da8c8 : ByteArray := prog_30_method_1_code
def yJxc12de_init_da8c8 : MethodName := ⟨RJxc12de, "<init>", "()V"⟩
def RJx4a65c : String := "java/util/ArrayList"
def TJx4a65c : u_T := fun k => match k with
  | 0 => ("java/util/AbstractList", "modCount", "I", false)
  | 1 => ("java/util/ArrayList", "elementData", "[Ljava/lang/Object;", false)
  | _ => ("java/util/ArrayList", "size", "I", false)
def tyJx4a65c : Nat → FieldType := fun k => match k with
  | 0 => .int
  | 1 => .array (.object "java/lang/Object")
  | _ => .int
theorem nmJx4a65c : ∀ a, a < 3 → ∀ b, b < 3 → a ≠ b → (TJx4a65c a).2.1 ≠ (TJx4a65c b).2.1 := by decide +kernel
theorem tyJx4a65c_ok : ∀ k, k < 3 → parseFieldDescriptor (TJx4a65c k).2.2.1 = some (tyJx4a65c k) := by decide +kernel
abbrev cJx4a65c_init_da8c8 : ByteArray := prog_31_method_2_code
def yJx4a65c_init_da8c8 : MethodName := ⟨RJx4a65c, "<init>", "()V"⟩
abbrev cJx4a65c_grow_92f84 : ByteArray := prog_31_method_6_code
def yJx4a65c_grow_92f84 : MethodName := ⟨RJx4a65c, "grow", "(I)[Ljava/lang/Object;"⟩
abbrev cJx4a65c_grow_d5877 : ByteArray := prog_31_method_7_code
def yJx4a65c_grow_d5877 : MethodName := ⟨RJx4a65c, "grow", "()[Ljava/lang/Object;"⟩
abbrev cJx4a65c_size_8abf5 : ByteArray := prog_31_method_8_code
def yJx4a65c_size_8abf5 : MethodName := ⟨RJx4a65c, "size", "()I"⟩
abbrev cJx4a65c_elementData_915e3 : ByteArray := prog_31_method_18_code
def yJx4a65c_elementData_915e3 : MethodName := ⟨RJx4a65c, "elementData", "(I)Ljava/lang/Object;"⟩
abbrev cJx4a65c_get_915e3 : ByteArray := prog_31_method_20_code
def yJx4a65c_get_915e3 : MethodName := ⟨RJx4a65c, "get", "(I)Ljava/lang/Object;"⟩
abbrev cJx4a65c_add_72be8 : ByteArray := prog_31_method_24_code
def yJx4a65c_add_72be8 : MethodName := ⟨RJx4a65c, "add", "(Ljava/lang/Object;[Ljava/lang/Object;I)V"⟩
abbrev cJx4a65c_add_9ea2d : ByteArray := prog_31_method_25_code
def yJx4a65c_add_9ea2d : MethodName := ⟨RJx4a65c, "add", "(Ljava/lang/Object;)Z"⟩
abbrev cJx4a65c_clear_da8c8 : ByteArray := prog_31_method_40_code
def yJx4a65c_clear_da8c8 : MethodName := ⟨RJx4a65c, "clear", "()V"⟩
def RJ7 : String := "java/util/Arrays"
abbrev cJ7_fill_53178 : ByteArray := prog_32_method_103_code
def yJ7_fill_53178 : MethodName := ⟨RJ7, "fill", "([II)V"⟩
abbrev cJ7_copyOf_1904c : ByteArray := prog_32_method_119_code
def yJ7_copyOf_1904c : MethodName := ⟨RJ7, "copyOf", "([Ljava/lang/Object;I)[Ljava/lang/Object;"⟩
abbrev cJ7_copyOf_6403c : ByteArray := prog_32_method_120_code
def yJ7_copyOf_6403c : MethodName := ⟨RJ7, "copyOf", "([Ljava/lang/Object;ILjava/lang/Class;)[Ljava/lang/Object;"⟩
def RJx5ef63 : String := "java/util/Collection"
def RJxbd725 : String := "java/util/List"
def RJ15 : String := "java/util/Objects"
abbrev cJ15_checkIndex_7cf53 : ByteArray := prog_35_method_17_code
def yJ15_checkIndex_7cf53 : MethodName := ⟨RJ15, "checkIndex", "(II)I"⟩
def RJxf0a74 : String := "java/util/RandomAccess"
def RJxa66e6 : String := "java/util/SequencedCollection"
def RJ8 : String := "jdk/internal/util/ArraysSupport"
abbrev cJ8_newLength_cabcc : ByteArray := prog_38_method_27_code
def yJ8_newLength_cabcc : MethodName := ⟨RJ8, "newLength", "(III)I"⟩
abbrev cJ8_hugeLength_7cf53 : ByteArray := prog_38_method_28_code
def yJ8_hugeLength_7cf53 : MethodName := ⟨RJ8, "hugeLength", "(II)I"⟩
def RJ3 : String := "jdk/internal/util/Preconditions"
abbrev cJ3_checkIndex_8e157 : ByteArray := prog_39_method_11_code
def yJ3_checkIndex_8e157 : MethodName := ⟨RJ3, "checkIndex", "(IILjava/util/function/BiFunction;)I"⟩
abbrev cJ3_checkFromToIndex_8c36e : ByteArray := prog_39_method_12_code
def yJ3_checkFromToIndex_8c36e : MethodName := ⟨RJ3, "checkFromToIndex", "(IIILjava/util/function/BiFunction;)I"⟩
def RL : String := "MakerStartsLaw"
abbrev cL_marked : ByteArray := method_3_code
def yL_marked : MethodName := ⟨RL, "marked", "(LMakerStarts;I[J)I"⟩
abbrev cL_field : ByteArray := method_4_code
def yL_field : MethodName := ⟨RL, "field", "(LMakerStarts;II[J)I"⟩
abbrev cL_held : ByteArray := method_5_code
def yL_held : MethodName := ⟨RL, "held", "(LMakerStarts;II[J)I"⟩
abbrev cL_law : ByteArray := code
def yL_law : MethodName := ⟨RL, "law", "([I)Z"⟩
abbrev vwCl : List vw_C := [(RJx4a65c, TJx4a65c, 3), (RX0, TX0, 6), (RX1, TX1, 4), (RX2, TX2, 15), (RX4, TX4, 20), (RX5, TX5, 20), (RX6, TX6, 3), (RX7, TX7, 9), (RX8, TX8, 9), (RX9, TX9, 11), (RX10, TX10, 12), (RX11, TX11, 8), (RX12, TX12, 74)]
abbrev TY (cy : Nat → ClassId) : List (ClassId × FieldType) := [(cy 0, .byte), (cy 1, .int), (cy 2, .long), (cy 3, .boolean), (cy 4, .object "MakerStarts$Type"), (cy 5, .object "MakerStarts$Frame")]
theorem i_TJx4a65c : ∀ w ∈ u_ws RJx4a65c TJx4a65c 3, w ∈ TB := inTBs _ [208, 204, 206] (by decide +kernel) (by decide +kernel)
theorem f_TJx4a65c : ∀ j, j < 3 → defaultValue (tyJx4a65c j) = vp_V [.int 0, .null, .int 0] j := by decide +kernel
theorem i_TX0 : ∀ w ∈ u_ws RX0 TX0 6, w ∈ TB := inTBs _ [360, 362, 364, 366, 368, 370] (by decide +kernel) (by decide +kernel)
theorem f_TX0 : ∀ j, j < 6 → defaultValue (tyX0 j) = vp_V [.null, .null, .null, .int 0, .int 0, .int 0] j := by decide +kernel
theorem i_TX1 : ∀ w ∈ u_ws RX1 TX1 4, w ∈ TB := inTBs _ [393, 395, 397, 399] (by decide +kernel) (by decide +kernel)
theorem f_TX1 : ∀ j, j < 4 → defaultValue (tyX1 j) = vp_V [.null, .null, .int 0, .null] j := by decide +kernel
theorem i_TX2 : ∀ w ∈ u_ws RX2 TX2 15, w ∈ TB := inTBs _ [437, 439, 441, 443, 445, 447, 449, 451, 453, 455, 457, 459, 461, 463, 465] (by decide +kernel) (by decide +kernel)
theorem f_TX2 : ∀ j, j < 15 → defaultValue (tyX2 j) = vp_V [.int 0, .int 0, .int 0, .int 0, .int 0, .int 0, .null, .int 0, .null, .null, .null, .null, .null, .null, .int 0] j := by decide +kernel
theorem i_TX4 : ∀ w ∈ u_ws RX4 TX4 20, w ∈ TB := inTBs _ [492, 494, 496, 498, 500, 502, 504, 506, 508, 510, 512, 514, 516, 518, 520, 522, 524, 526, 528, 530] (by decide +kernel) (by decide +kernel)
theorem f_TX4 : ∀ j, j < 20 → defaultValue (tyX4 j) = vp_V [.null, .null, .null, .null, .int 0, .int 0, .int 0, .null, .int 0, .null, .int 0, .int 0, .int 0, .null, .null, .int 0, .int 0, .int 0, .int 0, .int 0] j := by decide +kernel
theorem i_TX5 : ∀ w ∈ u_ws RX5 TX5 20, w ∈ TB := inTBs _ [865, 867, 869, 871, 873, 875, 877, 879, 881, 883, 885, 887, 889, 891, 893, 895, 897, 899, 901, 903] (by decide +kernel) (by decide +kernel)
theorem f_TX5 : ∀ j, j < 20 → defaultValue (tyX5 j) = vp_V [.null, .int 0, .int 0, .int 0, .long 0, .int 0, .int 0, .int 0, .int 0, .int 0, .int 0, .null, .int 0, .int 0, .int 0, .int 0, .int 0, .null, .int 0, .int 0] j := by decide +kernel
theorem i_TX6 : ∀ w ∈ u_ws RX6 TX6 3, w ∈ TB := inTBs _ [376, 378, 380] (by decide +kernel) (by decide +kernel)
theorem f_TX6 : ∀ j, j < 3 → defaultValue (tyX6 j) = vp_V [.null, .null, .null] j := by decide +kernel
theorem i_TX7 : ∀ w ∈ u_ws RX7 TX7 9, w ∈ TB := inTBs _ [235, 237, 239, 241, 243, 245, 247, 249, 251] (by decide +kernel) (by decide +kernel)
theorem f_TX7 : ∀ j, j < 9 → defaultValue (tyX7 j) = vp_V [.null, .int 0, .null, .null, .int 0, .null, .int 0, .int 0, .int 0] j := by decide +kernel
theorem i_TX8 : ∀ w ∈ u_ws RX8 TX8 9, w ∈ TB := inTBs _ [328, 330, 332, 334, 336, 338, 340, 342, 344] (by decide +kernel) (by decide +kernel)
theorem f_TX8 : ∀ j, j < 9 → defaultValue (tyX8 j) = vp_V [.null, .null, .null, .null, .int 0, .int 0, .int 0, .int 0, .int 0] j := by decide +kernel
theorem i_TX9 : ∀ w ∈ u_ws RX9 TX9 11, w ∈ TB := inTBs _ [728, 730, 732, 734, 736, 738, 740, 742, 744, 746, 748] (by decide +kernel) (by decide +kernel)
theorem f_TX9 : ∀ j, j < 11 → defaultValue (tyX9 j) = vp_V [.int 0, .long 0, .int 0, .null, .null, .int 0, .null, .int 0, .int 0, .int 0, .int 0] j := by decide +kernel
theorem i_TX10 : ∀ w ∈ u_ws RX10 TX10 12, w ∈ TB := inTBs _ [983, 985, 987, 989, 991, 993, 995, 997, 999, 1001, 1003, 1005] (by decide +kernel) (by decide +kernel)
theorem f_TX10 : ∀ j, j < 12 → defaultValue (tyX10 j) = vp_V [.null, .int 0, .int 0, .int 0, .int 0, .int 0, .long 0, .long 0, .int 0, .int 0, .null, .int 0] j := by decide +kernel
theorem i_TX11 : ∀ w ∈ u_ws RX11 TX11 8, w ∈ TB := inTBs _ [541, 543, 545, 547, 549, 551, 553, 555] (by decide +kernel) (by decide +kernel)
theorem f_TX11 : ∀ j, j < 8 → defaultValue (tyX11 j) = vp_V [.null, .int 0, .int 0, .null, .null, .null, .null, .null] j := by decide +kernel
theorem i_TX12 : ∀ w ∈ u_ws RX12 TX12 74, w ∈ TB := inTBs _ [1789, 1791, 1793, 1795, 1797, 1799, 1801, 1803, 1805, 1807, 1809, 1811, 1813, 1815, 1817, 1819, 1821, 1823, 1825, 1827, 1829, 1831, 1833, 1835, 1837, 1839, 1841, 1843, 1845, 1847, 1849, 1851, 1853, 1855, 1857, 1859, 1861, 1863, 1865, 1867, 1869, 1871, 1873, 1875, 1877, 1879, 1881, 1883, 1885, 1887, 1889, 1891, 1893, 1895, 1897, 1899, 1901, 1903, 1905, 1907, 1909, 1911, 1913, 1915, 1917, 1919, 1921, 1923, 1925, 1927, 1929, 1931, 1933, 1935] (by decide +kernel) (by decide +kernel)
theorem f_TX12 : ∀ j, j < 74 → defaultValue (tyX12 j) = vp_V [.int 0, .null, .int 0, .int 0, .null, .int 0, .int 0, .int 0, .long 0, .int 0, .int 0, .int 0, .int 0, .long 0, .int 0, .int 0, .int 0, .null, .null, .null, .null, .null, .null, .null, .null, .null, .null, .null, .null, .null, .null, .null, .null, .null, .null, .null, .null, .null, .null, .null, .null, .null, .null, .null, .null, .null, .null, .null, .null, .int 0, .int 0, .int 0, .int 0, .int 0, .int 0, .int 0, .int 0, .int 0, .int 0, .null, .null, .int 0, .int 0, .int 0, .int 0, .int 0, .int 0, .null, .null, .null, .int 0, .int 0, .int 0, .null] j := by decide +kernel
end
section
/-! What never comes back with a value, by the library's word 'Doomed'. Rows of a refutation: not of i_vc. -/
abbrev Dm (tb : Tables) (e : Env) (below : List Frame) (s : State) : Prop := Jvm.Refuse.Doomed tb e below s
theorem dm_back {tb : Tables} {e : Env} {below : List Frame} {s t : State} (h : Steps tb e below s t) (d : Dm tb e below t) : Dm tb e below s := by
  obtain ⟨k0, hk0, hin⟩ := h
  intro n hw
  by_cases hlt : n < k0
  · exact .inl (hin n hlt)
  · obtain ⟨j, rfl⟩ : ∃ j, n = k0 + j := ⟨n - k0, by omega⟩
    have key : ∀ i, stepsAlone tb e (k0 + i) s = stepsAlone tb e i t := fun i => by rw [stepsAlone_add, hk0]
    rw [key]
    exact d j fun i hi => by rw [← key]; exact hw (k0 + i) (by omega)
theorem dm_stop {tb : Tables} {e : Env} {below : List Frame} {s : State} (h : ¬ s.goesOn) (hw : Jvm.Refuse.Alive below s) : Dm tb e below s :=
  fun n _ => by rw [stepsAlone_of_not_goesOn tb e h]; exact hw
theorem dm_first (P : Nat → Prop) (n : Nat) : (∀ k, k < n → P k) ∨ ∃ j, j < n ∧ (∀ i, i < j → P i) ∧ ¬ P j := by
  induction n with
  | zero => exact .inl fun k hk => absurd hk (Nat.not_lt_zero k)
  | succ n ih =>
    rcases ih with h | ⟨j, h1, h2, h3⟩
    · by_cases hp : P n
      · refine .inl fun k hk => ?_
        by_cases hkn : k < n
        · exact h k hkn
        · obtain rfl : k = n := by omega
          exact hp
      · exact .inr ⟨n, Nat.lt_succ_self n, h, hp⟩
    · exact .inr ⟨j, by omega, h2, h3⟩
/-- what is called over g never comes back with a value, and g has no handler: so g's own invocation doesn't -/
theorem dm_over {tb : Tables} {e : Env} {below : List Frame} {u : State} {g : JFrame} {meth : Method} {c : Code}
    (hm : u.vm.method? g.method = some meth) (hcode : meth.code = some c) (hx : c.exceptionTable = #[]) (hl : meth.locks = false) (h1 : g.locked = none) (h2 : g.entered = [])
    (hd : Dm tb e (.java g :: below) u) : Dm tb e below u := by
  intro n hw
  rcases dm_first (fun k => Within (stepsAlone tb e k u) (.java g :: below)) n with hall | ⟨j, hj, hall, hnot⟩
  · rcases hd n hall with h | ⟨a, h⟩ | h
    · exact .inl (Within.weaken (mid := [.java g]) h)
    · exact .inl (Jvm.Refuse.within_two (above := []) h)
    · exact .inr (.inr (Jvm.Refuse.cut_up h))
  · rcases hd j hall with h | ⟨a, hov⟩ | h
    · exact absurd h hnot
    · obtain ⟨i, rfl⟩ : ∃ i, n = j + 1 + i := ⟨n - (j + 1), by omega⟩
      have hmv : (stepsAlone tb e j u).vm.method? g.method = some meth := Jvm.Refuse.stepsAlone_method? tb e j hm
      by_cases hgo : (stepsAlone tb e j u).goesOn
      · have hst : (stepsAlone tb e (j + 1) u).frames = .throwing a :: below := by
          rw [stepsAlone_add, stepsAlone_succ _ hgo]
          show (stepThread tb e (stepsAlone tb e j u)).1.frames = _
          have h9 : stepThread tb e (stepsAlone tb e j u) = stepThrowing e (stepsAlone tb e j u) a (.java g :: below) := by unfold stepThread; rw [hov]
          rw [h9]
          exact Jvm.Refuse.falls_strong hmv hcode (Jvm.Refuse.Misses.of_empty hx) hl h1 h2 hov
        cases i with
        | zero => exact .inr (.inl ⟨a, hst⟩)
        | succ i => exact absurd (hw (j + 1) (by omega)) (Jvm.Refuse.not_within_over hst)
      · have h9 : stepsAlone tb e (j + 1 + i) u = stepsAlone tb e j u := by
          rw [Nat.add_assoc, stepsAlone_add, stepsAlone_of_not_goesOn tb e hgo]
        rw [h9]
        exact .inl (Jvm.Refuse.within_two (above := []) hov)
    · exact absurd (hw j hj) (Jvm.Refuse.not_within_cut (Jvm.Refuse.cut_up h))
/-! ## an invocation beyond the stack -/
def Ro {α : Type} : Sem α → Prop
  | .pure _ => True
  | .ctl _ => True
  | .look _ k => ∀ v, Ro (k v)
  | .frames k => ∀ v, Ro (k v)
  | .mark _ k => Ro k
  | _ => False
theorem Ro.bind {α β : Type} {t : Sem α} {f : α → Sem β} (h : Ro t) (h2 : ∀ a, Ro (f a)) : Ro (t >>= f) := by
  show Ro (t.bind f)
  induction t with
  | pure a => exact h2 a
  | ctl c => trivial
  | look g k ih => exact fun v => ih v (h v)
  | frames k ih => exact fun v => ih v (h v)
  | mark r k ih => exact ih h
  | _ => exact h.elim
theorem Ro.forIn {α β : Type} (xs : List α) (f : α → β → Sem (ForInStep β)) (hf : ∀ a b, Ro (f a b)) : ∀ init : β, Ro (forIn xs init f) := by
  induction xs with
  | nil => intro init; exact trivial
  | cons x xs ih =>
    intro init
    rw [List.forIn_cons]
    refine Ro.bind (hf x init) fun r => ?_
    cases r with
    | done b => exact trivial
    | yield b => exact ih b
theorem go_ro {α : Type} (t : Sem α) (e : Env) : ∀ (d : Bool) (acts : List Action) (s : State), Ro t → (t.go e d acts s).state = s := by
  induction t with
  | pure a => intro d acts s _; rfl
  | ctl c => intro d acts s _; rw [Sem.go]; unfold Sem.go.endStep; split <;> rfl
  | look g k ih => intro d acts s h; rw [Sem.go]; exact ih _ _ _ _ (h _)
  | frames k ih => intro d acts s h; rw [Sem.go]; exact ih _ _ _ _ (h _)
  | mark r k ih => intro d acts s h; rw [Sem.go]; exact ih _ _ _ h
  | _ => intro d acts s h; exact h.elim
theorem ro_class (c : ClassId) : Ro (theClass c) := fun v => by cases v <;> trivial
theorem ro_method (m : MethodId) : Ro (theMethod m) := Ro.bind (ro_class _) fun k => by split <;> trivial
theorem ro_ann (m : MethodId) (d : String) : Ro (annotated m d) := by
  unfold annotated
  refine Ro.bind (ro_class _) fun k => ?_
  dsimp only
  split
  · split
    · refine Ro.bind (fun v => trivial) fun b => ?_
      split
      · trivial
      · split
        · split
          · split <;> trivial
          · trivial
        · trivial
    · split
      · split
        · split <;> trivial
        · trivial
      · trivial
  · trivial
def dmP (x : Control) : Prop := (∃ cls msg, x = .throwNew cls msg) ∨ (∃ y, x = .stop y) ∨ ∃ a, x = .block a
def Gc (e : Env) (s : State) (t : Sem Frame) : Prop := ∀ acts, ∃ x acts', t.go e false acts s = .ctl x s acts' ∧ dmP x
theorem gc_ctl {e : Env} {s : State} {x : Control} (h : dmP x) : Gc e s (.ctl x) := by
  intro acts
  rw [Sem.go]
  unfold Sem.go.endStep
  split
  · exact ⟨_, _, rfl, .inr (.inl ⟨_, rfl⟩)⟩
  · exact ⟨_, _, rfl, h⟩
theorem gc_bind {e : Env} {s : State} {α : Type} {t : Sem α} {k : α → Sem Frame} (h : Ro t) (he : Jvm.Refuse.EndsIn dmP t) (hk : ∀ a, Gc e s (k a)) : Gc e s (t >>= k) := by
  show Gc e s (t.bind k)
  induction t with
  | pure a => exact hk a
  | ctl c => exact gc_ctl he
  | look f k' ih =>
    intro acts
    show ∃ x acts', Sem.go (Sem.look f fun v => (k' v).bind k) e false acts s = .ctl x s acts' ∧ dmP x
    rw [Sem.go]
    exact ih _ (h _) (he _) _
  | frames k' ih =>
    intro acts
    show ∃ x acts', Sem.go (Sem.frames fun v => (k' v).bind k) e false acts s = .ctl x s acts' ∧ dmP x
    rw [Sem.go]
    exact ih _ (h _) (he _) _
  | mark r k' ih =>
    intro acts
    show ∃ x acts', Sem.go (Sem.mark r (k'.bind k)) e false acts s = .ctl x s acts' ∧ dmP x
    rw [Sem.go]
    exact ih h he _
  | _ => exact h.elim
theorem gc_frames {e : Env} {s : State} {k : List Frame → Sem Frame} (h : Gc e s (k s.frames)) : Gc e s (Jvm.frames >>= k) := by
  intro acts
  show ∃ x acts', Sem.go (Sem.frames fun v => (Sem.pure v).bind k) e false acts s = .ctl x s acts' ∧ dmP x
  rw [Sem.go]
  exact h acts
theorem gc_ask {e : Env} {s : State} {β : Type} {f : Platform → β} {k : β → Sem Frame} (h : Gc e s (k (f e.platform))) : Gc e s (Jvm.ask f >>= k) := by
  intro acts
  show ∃ x acts', Sem.go (Sem.look (fun e _ => f e.platform) fun v => (Sem.pure v).bind k) e false acts s = .ctl x s acts' ∧ dmP x
  rw [Sem.go]
  exact h acts
theorem dm_fin {tb : Tables} {e : Env} {s : State} {acts : List Action} {my : MethodId} {args : Array Value} {below : List Frame} {g : JFrame} {meth : Method} {c : Code} {X : Sem Frame}
    (hX : Gc e s X) (hfr : s.frames = .java g :: below)
    (hm : s.vm.method? g.method = some meth) (hcode : meth.code = some c) (hx : c.exceptionTable = #[]) (hl : meth.locks = false) (h1 : g.locked = none) (h2 : g.entered = []) :
    Dm tb e below (match X.go e false acts s with
      | .ok f s' acts' => (s'.pushFrame f, acts')
      | .ctl (.block a) s' acts' => ((s'.pushFrame (.invoking my args)).setStatus (.blocking a), .mark "vm.invoke/blocked" :: acts')
      | .ctl c s' acts' => (note c s', acts') : Out).1 := by
  obtain ⟨x, acts', hg, hP⟩ := hX acts
  rw [hg]
  rcases hP with ⟨cls, msg, rfl⟩ | ⟨y, rfl⟩ | ⟨a, rfl⟩
  · show Dm tb e below (s.pushFrame (.throwNew cls msg none))
    exact Jvm.Refuse.doomed_raise (N := .throwNew cls msg none) hx (m := g.method) hm hcode hl (by rw [Jvm.Refuse.frames_pushFrame _ (Jvm.Refuse.ok_of_frames hfr), hfr]) trivial rfl h1 h2
  · show Dm tb e below (s.halt y)
    refine dm_stop (fun h => ?_) (.inl ⟨[.java g], ?_, by simp, by simp⟩)
    · exact absurd h.1 (by unfold State.halt; simp)
    · exact hfr
  · show Dm tb e below ((s.pushFrame (.invoking my args)).setStatus (.blocking a))
    refine dm_stop (fun h => ?_) (.inl (Jvm.Refuse.within_two (above := []) (x := .invoking my args) (y := .java g) ?_))
    · have h9 := h.2.1
      simp [State.curStatus?, State.setStatus, Array.getElem?_modify] at h9
    · rw [Jvm.Refuse.frames_setStatus, Jvm.Refuse.frames_pushFrame _ (Jvm.Refuse.ok_of_frames hfr), hfr]; rfl
theorem ends_class (c : ClassId) : Jvm.Refuse.EndsIn dmP (theClass c) := fun v => by
  cases v with
  | none => exact .inr (.inl ⟨_, rfl⟩)
  | some k => trivial
theorem ends_method (m : MethodId) : Jvm.Refuse.EndsIn dmP (theMethod m) := Jvm.Refuse.EndsIn.bind (ends_class _) fun k => by split <;> first | trivial | exact .inr (.inl ⟨_, rfl⟩)
theorem ends_ann (m : MethodId) (d : String) : Jvm.Refuse.EndsIn dmP (annotated m d) := by
  unfold annotated
  refine Jvm.Refuse.EndsIn.bind (ends_class _) fun k => ?_
  dsimp only
  split
  · split
    · refine Jvm.Refuse.EndsIn.bind (fun v => trivial) fun b => ?_
      split
      · trivial
      · split
        · split
          · split <;> trivial
          · trivial
        · exact .inr (.inl ⟨_, rfl⟩)
    · split
      · split
        · split <;> trivial
        · trivial
      · exact .inr (.inl ⟨_, rfl⟩)
  · trivial
theorem dm_full {tb : Tables} {e : Env} {s : State} {acts : List Action} {my : MethodId} {args : Array Value} {below : List Frame} {g : JFrame} {meth : Method} {c : Code}
    (hfr : s.frames = .java g :: below) (hfull : (e.platform.stackLimits ((s.threads[s.cur]?).getD { frames := [] })).1 ≤ s.frames.length) (hno : ∀ f ∈ s.frames, ¬ Jvm.Refuse.Thr f)
    (hm : s.vm.method? g.method = some meth) (hcode : meth.code = some c) (hx : c.exceptionTable = #[]) (hl : meth.locks = false) (h1 : g.locked = none) (h2 : g.entered = []) :
    Dm tb e below (doInvoke e s acts my args).1 := by
  have hsf : ∀ n, e.platform.stackFull ((s.threads[s.cur]?).getD { frames := [] }) s.frames n = true := fun n => by
    unfold Platform.stackFull
    rw [stackUse_fst, decide_eq_true hfull]; rfl
  have han : ∀ fs : List Frame, (∀ f ∈ fs, ¬ Jvm.Refuse.Thr f) → (fs.any fun x => match x with
      | .thenThrow _ => true
      | .throwNew _ _ _ => true
      | _ => false) = false := fun fs h => by
    rw [List.any_eq_false]
    intro f hf
    have h9 := h f hf
    cases f <;> first | exact fun _ => h9 trivial | exact fun q => Bool.noConfusion q
  unfold doInvoke
  refine dm_fin (gc_frames (gc_bind (ro_method my) (ends_method my) fun methY => gc_ask ?_)) hfr hm hcode hx hl h1 h2
  dsimp only
  rw [if_pos (by rw [hsf, Bool.true_and, Bool.or_eq_true]; exact .inl ((Bool.not_eq_true' _).mpr (han s.frames hno)))]
  refine gc_bind (Ro.forIn _ _ (fun f b => ?_) _) (Jvm.Refuse.EndsIn.forIn_list _ _ (fun f b => ?_) _) fun _ => gc_bind (t := Jvm.mark _) trivial trivial fun _ => gc_ctl (.inl ⟨_, _, rfl⟩)
  · split
    · refine Ro.bind (ro_ann _ _) fun b => ?_
      split <;> trivial
    · trivial
  · split
    · refine Jvm.Refuse.EndsIn.bind (ends_ann _ _) fun b => ?_
      split
      · exact .inr (.inl ⟨_, rfl⟩)
      · trivial
    · trivial
/-! ## contracts of what never comes back -/
/-- just d frames are left, and no exception is under way -/
def Tg (e : Env) (d : Nat) (s : State) : Prop := (e.platform.stackLimits s.me).1 = s.frames.length + d ∧ ∀ f ∈ s.frames, ¬ Jvm.Refuse.Thr f
def Rm (d : Nat) : Room := { frames := d, cells := 0, slots := 0, locals := 40 * d }
def Dies (l : Launch) (y : MethodName) (ws : List Cond) (d : Nat) (Pc : Array Value → State → Prop) : Prop :=
  ∀ (p : Program) (e : Env), l.admits e → FairCas e.choices → FairClock e.choices → ∀ (s : State) (m : MethodId) (args : Array Value) (below : List Frame),
    s.frames = .invoking m args :: below → (headSpec ws (Rm d)).appliesLoose y e.platform s = true → Tg e d s → Pc args s → Dm p.tables e below s
theorem Dies.ofW {l : Launch} {y : MethodName} {ws ws' : List Cond} {d : Nat} {Pc : Array Value → State → Prop} {cc : ByteArray} {maxL : Nat} {ret : Option FieldType}
    (hy : plainName y.cls = true) (hw : ws = Cond.code y cc maxL ret :: ws')
    (body : ∀ p e s m args below meth c s₁, BodyLoose p l y (headSpec ws (Rm d)) cc maxL ret e s m args below meth c s₁ → c.maxLocals = maxL → c.exceptionTable = #[] → meth.code = some c → Tg e d s → Pc args s →
      W p l e (Rm d) s m args below meth c s.heap [] 0 0 (Dm p.tables e below) (entryFrame m args maxL)) : Dies l y ws d Pc := by
  intro p e ha hc hk s m args below hf happ htg hP
  obtain ⟨hrun, hable, halone, hname, hhears, hinit, hroom, hpre⟩ := (Spec.appliesLoose_iff hf).mp happ
  obtain ⟨meth, c, hmeth, hcode, hbytes, hlocals, hret, hlocks, hempty, -⟩ := Cond.code_spec hname (atoms_spec (ws := ws) hpre _ (by rw [hw]; exact List.mem_cons_self))
  have hcur := State.cur_lt_of_frames hf
  obtain ⟨s₁, hs₁⟩ : ∃ s₁, s₁ = s.setFrames (.java (entryFrame m args maxL) :: below) := ⟨_, rfl⟩
  have hf1 : s₁.frames = .java (entryFrame m args maxL) :: below := by rw [hs₁]; exact State.frames_setFrames _ hcur
  have ht1 := State.topJava?_of_frames hf1
  have hAt : At s₁ m c below := by
    refine ⟨by rw [ht1]; rfl, ⟨[], by rw [hf1]; rfl⟩, by rw [hs₁]; exact hrun, by rw [hs₁]; simpa using hable, by rw [hs₁]; simpa using halone, ?_, ?_⟩
    · rw [State.code?_eq, hs₁]; simp [State.setFrames, hmeth, hcode]
    · rw [hs₁]; exact State.plainMethod.of_named (s := s) (plainFor_of_name hy) hname hmeth
  have hB : BodyLoose p l y (headSpec ws (Rm d)) cc maxL ret e s m args below meth c s₁ :=
    ⟨ha, hc, hk, by cases p <;> rfl, hf, hname, hhears, hinit, hroom, hpre, hmeth, hret, hlocks, hbytes, hs₁, hAt⟩
  have hstep : (stepThread p.tables e s).1 = s₁.setTop (entryFrame m args maxL) := by
    have hfull : e.platform.stackFull (s.setFrames below).me (s.setFrames below).frames c.maxLocals = false := by
      obtain ⟨-, h1, -, h2⟩ := State.hasRoom_stack hroom
      rw [hf, List.length_cons] at h1
      rw [State.localsInUse_invoking hf hmeth hcode] at h2
      have hw := stackUse_le_stackWeight below
      rw [State.frames_setFrames _ hcur]
      exact Platform.stackFull_eq_false (by rw [State.stackLimits_setFrames]; omega) (by rw [State.stackLimits_setFrames]; omega)
    rw [stepThread_invoking hf, (doInvoke_java (s := s.setFrames below) (e := e) (meth := meth) (code := c) hmeth hcode hlocks hfull).1, State.setTop_self ht1, hs₁]
    simp only [State.pushFrame, State.frames_setFrames _ hcur, State.setFrames_setFrames, hlocals, entryFrame]
  obtain ⟨t, hst, hd⟩ := body p e s m args below meth c s₁ hB hlocals (by simpa using hempty) hcode htg hP s₁ (by rw [hs₁]; rfl) (Stand.of_body hB)
  exact dm_back (Steps.head (tb := p.tables) (e := e) ⟨hrun, hable, halone⟩ ⟨[.invoking m args], hf, by simp, by simp⟩ (hstep ▸ hst)) hd
theorem dm_fwd {tb : Tables} {e : Env} {below : List Frame} {s : State} (hgo : s.goesOn) (hw : Within s below) (d : Dm tb e below s) : Dm tb e below (stepThread tb e s).1 := by
  intro n h
  have h9 := d (n + 1) fun k hk => by
    cases k with
    | zero => exact hw
    | succ k => rw [stepsAlone_succ _ hgo]; exact h k (by omega)
  rwa [stepsAlone_succ _ hgo] at h9
section Die
variable {p : Program} {l : Launch} {e : Env} {R : Room} {s : State} {m : MethodId} {args : Array Value} {below : List Frame} {meth : Method} {c : Code} {H : Heap} {locs : List Loc} {cells slots : Nat}
variable {y : MethodName} {bytes cc : ByteArray} {maxL nL n index d : Nat} {ret : Option FieldType} {ws : List Cond} {Pc : Array Value → State → Prop} {Ts : List Cond} {own C : String} {b : Addr} {As rest : List Value} {g : JFrame}
theorem va_dieV (S : CallFix p m c cc nL s args Ts own) (hD : ∀ k, d = k + 1 → Dies l y ws k Pc) (cw : CallW (Rm 1) s args own C index y bytes maxL ret ws (Rm 0) 0 0 n) (hp : PreV s H C b Pc As)
    (hex : c.exceptionTable = #[]) (hmc : meth.code = some c) (hlk : meth.locks = false) (htg : Tg e d s)
    (hg : g.method = m) (hn : As.length = n) (hsize : g.locals.size = nL) (hstack : g.stack = As.reverse ++ .ref b :: rest) (hW : 2 * g.monitorRoom + (rest.map fun v => v.category).sum ≤ 8) (hdg : decode cc g.pc = .ok (.invokevirtual index, 3))
    (hgl : g.locked = none) (hge : g.entered = []) (hc0 : cells ≤ 0) (hs0 : slots ≤ 0) : W p l e (Rm d) s m args below meth c H locs cells slots (Dm p.tables e below) g := by
  obtain ⟨⟨-, -, -, hlo, hws, hcw, hcode, hini, hy, hlen, hlink⟩, hinst, hsel⟩ := cw
  obtain ⟨hexec, hb, hml, hown, -⟩ := S
  obtain ⟨hbl, ⟨cellB, hcell, hobj, hcls⟩, hPc⟩ := hp
  intro T hT X
  obtain ⟨mk, methM, hnamed, hmethM, hstM, habM⟩ := Cond.instanceMethod_spec hinst
  obtain ⟨methM', cM, hmethM', hcM, -, hlM, -, -, -, hsigM⟩ := Cond.code_spec hnamed hcode
  cases hmethM.symm.trans hmethM'
  obtain ⟨c2, r2, m2, q1, q2, q3, q4, kP, hkP, hkPi⟩ := Cond.selects_spec hsel
  cases hcls.symm.trans q1
  cases (State.methodFound?_of_named hnamed hy).symm.trans q2
  cases hnamed.symm.trans q3
  have hselP : selectMethod e.platform s.vm cellB.cls mk = .method mk := by rw [Launch.admits_selectMethod X.admits]; exact q4
  obtain ⟨vm₁, X₁, hstep₁⟩ := X.invokevirtual hexec hown hlink hnamed hmethM hstM hkP hkPi hy (a := b) (cell := cellB) (by rw [hT]; exact hcell)
    (fun z h => by rw [h] at hobj; cases hobj) hselP hmethM habM hkP hkPi (g := g) hg (argsL := As) (rest := rest) (hn.trans (hlen _ hsigM)) hstack (by rw [hb]; exact hdg)
  obtain ⟨g', hg'⟩ : ∃ g' : JFrame, g' = { g with stack := rest } := ⟨_, rfl⟩
  rw [← hg'] at hstep₁
  have hgm : g'.method = m := by rw [hg']; exact hg
  have hl' : g'.locked = none := by rw [hg']; exact hgl
  have he' : g'.entered = [] := by rw [hg']; exact hge
  refine ⟨(doInvoke e ((T.setVm vm₁).setTop g') [] mk (Value.ref b :: As).toArray).1, hstep₁ _ (fun acts => by rw [doInvoke_state]; exact Steps.refl _), ?_⟩
  have hfr : ((T.setVm vm₁).setTop g').frames = .java g' :: below := by rw [State.frames_setTop' _ X₁.here.top, X₁.tail]
  have hme : ((T.setVm vm₁).setTop g').vm.method? g'.method = some meth := by rw [hgm]; exact X₁.method'
  have hlim : e.platform.stackLimits ((T.setVm vm₁).setTop g').me = e.platform.stackLimits s.me := by rw [State.stackLimits_setTop _ X₁.here.top, X₁.limits]
  have hsl : s.frames.length = below.length + 1 := by rw [X.frames]; rfl
  have hbn : ∀ f ∈ below, ¬ Jvm.Refuse.Thr f := fun f h => htg.2 f (by rw [X.frames]; exact List.mem_cons_of_mem _ h)
  cases d with
  | zero =>
    refine dm_full hfr ?_ ?_ hme hmc hex hlk hl' he'
    · show (e.platform.stackLimits ((T.setVm vm₁).setTop g').me).1 ≤ _
      rw [hlim, htg.1, hsl, hfr]; simp
    · rw [hfr]
      intro f hf
      rcases List.mem_cons.mp hf with rfl | hf
      · exact fun h => h
      · exact hbn f hf
  | succ k =>
    have hf2 : ((T.setVm vm₁).calling g' mk (Value.ref b :: As).toArray).frames = .invoking mk (Value.ref b :: As).toArray :: .java g' :: below := by
      rw [State.frames_calling X₁.here.top, X₁.tail]
    have hsz : g'.locals.size = c.maxLocals := by rw [hg', hml]; exact hsize
    have hg2 : 2 * g'.monitorRoom + (g'.stack.map fun v => v.category).sum ≤ 8 := by rw [hg']; exact hW
    have hrm : ((T.setVm vm₁).calling g' mk (Value.ref b :: As).toArray).hasRoom e.platform (Rm k) = true :=
      X₁.room_calling (g := g') (R' := Rm k) hsz (by rw [X₁.warmed.alike.method?]; exact hmethM) hcM (Nat.le_refl _)
        (by show _ + (cM.maxLocals + 11) + 40 * k ≤ 40 * (k + 1); have h9 : 8 + (maxL + 11) + 40 * 0 ≤ 40 * 1 := hlo; rw [hlM]; omega) (by show cells + 0 ≤ 0; omega) (by show slots + 0 ≤ 0; omega)
    have hnU : (T.setVm vm₁).methodNamed? y = some mk := X₁.named hnamed
    obtain ⟨kY, hkY, -⟩ := className_of_methodNamed hnU
    have h3 : (Cond.initialized y.cls).before (Value.ref b :: As).toArray (T.setVm vm₁) = true := word_at X₁.warmed (Or.inl (by first | rfl | simp [Cond.onTables, Cond.keeps, Cond.steady])) hini
    have hinitY : kY.init = .initialized := Cond.initialized_spec (findClass_of_methodNamed hnU) hkY h3
    have happ : (headSpec ws (Rm k)).appliesLoose y e.platform ((T.setVm vm₁).calling g' mk (Value.ref b :: As).toArray) = true :=
      Spec.appliesLoose_calling (g := g') (c := c) (below := below) (by rw [hgm]; exact X₁.here) (ig := .invokevirtual index) (len := 3) (by rw [hg', hb]; exact hdg) hnU
        hkY hinitY hrm (atoms_intro fun w hw => hws w hw _ _ X₁.warmed)
    have htg2 : Tg e k ((T.setVm vm₁).calling g' mk (Value.ref b :: As).toArray) := by
      refine ⟨?_, ?_⟩
      · rw [State.calling_eq X₁.here.top, State.stackLimits_setFrames, ← State.calling_eq X₁.here.top, hf2, X₁.limits, htg.1, hsl]
        simp only [List.length_cons]; omega
      · rw [hf2]
        intro f hf
        rcases List.mem_cons.mp hf with rfl | hf
        · exact fun h => h
        · rcases List.mem_cons.mp hf with rfl | hf
          · exact fun h => h
          · exact hbn f hf
    have hdie := hD k rfl p e X.admits X.cas X.clock _ mk (Value.ref b :: As).toArray (.java g' :: below) hf2 happ htg2 (hbl _ _ _ _ (hPc (T.setVm vm₁) hT X₁.warmed))
    have hov := dm_over (g := g') (by rw [hgm]; exact X₁.method') hmc hex hlk hl' he' hdie
    have hgo : ((T.setVm vm₁).calling g' mk (Value.ref b :: As).toArray).goesOn := by
      obtain ⟨h1, h2, h3, -⟩ := (Spec.appliesLoose_iff hf2).mp happ
      exact ⟨h1, h2, h3⟩
    have h8 := dm_fwd hgo (Jvm.Refuse.within_two (above := []) hf2) hov
    rw [stepThread_invoking hf2] at h8
    have h7 : ((T.setVm vm₁).calling g' mk (Value.ref b :: As).toArray).setFrames (.java g' :: below) = (T.setVm vm₁).setTop g' := by
      obtain ⟨g₀, hg0⟩ := Option.isSome_iff_exists.mp X₁.here.top
      obtain ⟨r, hr⟩ := State.topJava?_eq_some.mp hg0
      have hrb : r = below := by have h9 := X₁.tail; rw [hr] at h9; exact h9
      rw [State.calling_eq X₁.here.top, State.setFrames_setFrames, State.setTop_of_frames _ hr, hrb]
    rw [h7] at h8
    exact h8
end Die
/-- a loop: what holds at its head with n turns left -/
theorem loopD {p : Program} {l : Launch} {e : Env} {R : Room} {s : State} {m : MethodId} {args : Array Value} {below : List Frame} {meth : Method} {c : Code} {cells slots : Nat} {Q : State → Prop} {St : Type} (I : Nat → St → Heap → List Loc → Array Slot → Prop) (hd : Nat)
    (ex : ∀ (st : St) (H : Heap) (locs : List Loc) (ls : Array Slot), I 0 st H locs ls → W p l e R s m args below meth c H locs cells slots Q (F0 m hd ls []))
    (go : ∀ (n : Nat) (st : St) (H : Heap) (locs : List Loc) (ls : Array Slot), I (n + 1) st H locs ls → (∀ (st2 : St) (H2 : Heap) (locs2 : List Loc) (ls2 : Array Slot), I n st2 H2 locs2 ls2 → W p l e R s m args below meth c H2 locs2 cells slots Q (F0 m hd ls2 [])) → W p l e R s m args below meth c H locs cells slots Q (F0 m hd ls [])) :
    ∀ (n : Nat) (st : St) (H : Heap) (locs : List Loc) (ls : Array Slot), I n st H locs ls → W p l e R s m args below meth c H locs cells slots Q (F0 m hd ls []) := by
  intro n
  induction n with
  | zero => exact ex
  | succ n ih => exact fun st H locs ls h => go n st H locs ls h ih
end
section
theorem t_100 : (Jvm.Cond.selects "MakerStartsModel" ({ cls := "MakerStartsModel", name := "actOf", desc := "(IJ)I" } : Jvm.MethodName) ({ cls := "MakerStartsModel", name := "actOf", desc := "(IJ)I" } : Jvm.MethodName)) ∈ TB := inTB 100 (by decide +kernel) (by decide +kernel)
theorem t_123 : (Jvm.Cond.selects "MakerStartsModel" ({ cls := "MakerStartsModel", name := "steps", desc := "()Z" } : Jvm.MethodName) ({ cls := "MakerStartsModel", name := "steps", desc := "()Z" } : Jvm.MethodName)) ∈ TB := inTB 123 (by decide +kernel) (by decide +kernel)
theorem t_125 : (Jvm.Cond.selects "MakerStartsModel" ({ cls := "MakerStartsModel", name := "work", desc := "(II)I" } : Jvm.MethodName) ({ cls := "MakerStartsModel", name := "work", desc := "(II)I" } : Jvm.MethodName)) ∈ TB := inTB 125 (by decide +kernel) (by decide +kernel)
theorem t_127 : (Jvm.Cond.selects "MakerStartsModel" ({ cls := "MakerStartsModel", name := "callAct", desc := "(J)I" } : Jvm.MethodName) ({ cls := "MakerStartsModel", name := "callAct", desc := "(J)I" } : Jvm.MethodName)) ∈ TB := inTB 127 (by decide +kernel) (by decide +kernel)
theorem t_128 : (Jvm.Cond.selects "MakerStartsModel" ({ cls := "MakerStartsModel", name := "runBody", desc := "(II)I" } : Jvm.MethodName) ({ cls := "MakerStartsModel", name := "runBody", desc := "(II)I" } : Jvm.MethodName)) ∈ TB := inTB 128 (by decide +kernel) (by decide +kernel)
theorem t_129 : (Jvm.Cond.selects "MakerStartsModel" ({ cls := "MakerStartsModel", name := "run", desc := "(II)I" } : Jvm.MethodName) ({ cls := "MakerStartsModel", name := "run", desc := "(II)I" } : Jvm.MethodName)) ∈ TB := inTB 129 (by decide +kernel) (by decide +kernel)
theorem t_153 : (Jvm.Cond.initialized "MakerStartsModel") ∈ TB := inTB 153 (by decide +kernel) (by decide +kernel)
theorem t_1738 : (Jvm.Cond.fieldLink "MakerStartsModel" (78 : Nat) "MakerStartsModel" "tMembers" "[I") ∈ TB := inTB 1738 (by decide +kernel) (by decide +kernel)
theorem t_1739 : (Jvm.Cond.fieldLink "MakerStartsModel" (81 : Nat) "MakerStartsModel" "mKind" "[I") ∈ TB := inTB 1739 (by decide +kernel) (by decide +kernel)
theorem t_1740 : (Jvm.Cond.fieldLink "MakerStartsModel" (84 : Nat) "MakerStartsModel" "mName" "[J") ∈ TB := inTB 1740 (by decide +kernel) (by decide +kernel)
theorem t_1744 : (Jvm.Cond.fieldLink "MakerStartsModel" (96 : Nat) "MakerStartsModel" "mBody" "[I") ∈ TB := inTB 1744 (by decide +kernel) (by decide +kernel)
theorem t_1754 : (Jvm.Cond.fieldLink "MakerStartsModel" (126 : Nat) "MakerStartsModel" "nKind" "[I") ∈ TB := inTB 1754 (by decide +kernel) (by decide +kernel)
theorem t_1755 : (Jvm.Cond.fieldLink "MakerStartsModel" (129 : Nat) "MakerStartsModel" "nA" "[I") ∈ TB := inTB 1755 (by decide +kernel) (by decide +kernel)
theorem t_1761 : (Jvm.Cond.fieldLink "MakerStartsModel" (147 : Nat) "MakerStartsModel" "nName" "[J") ∈ TB := inTB 1761 (by decide +kernel) (by decide +kernel)
theorem t_1778 : (Jvm.Cond.fieldLink "MakerStartsModel" (430 : Nat) "MakerStartsModel" "steps" "I") ∈ TB := inTB 1778 (by decide +kernel) (by decide +kernel)
theorem t_1779 : (Jvm.Cond.fieldLink "MakerStartsModel" (462 : Nat) "MakerStartsModel" "depth" "I") ∈ TB := inTB 1779 (by decide +kernel) (by decide +kernel)
theorem t_1780 : (Jvm.Cond.fieldLink "MakerStartsModel" (443 : Nat) "MakerStartsModel" "out" "I") ∈ TB := inTB 1780 (by decide +kernel) (by decide +kernel)
theorem t_1781 : (Jvm.Cond.fieldLink "MakerStartsModel" (468 : Nat) "MakerStartsModel" "returned" "I") ∈ TB := inTB 1781 (by decide +kernel) (by decide +kernel)
theorem t_1783 : (Jvm.Cond.fieldLink "MakerStartsModel" (165 : Nat) "MakerStartsModel" "thingType" "[I") ∈ TB := inTB 1783 (by decide +kernel) (by decide +kernel)
theorem t_1787 : (Jvm.Cond.fieldLink "MakerStartsModel" (456 : Nat) "MakerStartsModel" "self" "I") ∈ TB := inTB 1787 (by decide +kernel) (by decide +kernel)
theorem t_2082 : (Jvm.Cond.methodLink "MakerStartsModel" (351 : Nat) ({ cls := "MakerStartsModel", name := "actOf", desc := "(IJ)I" } : Jvm.MethodName)) ∈ TB := inTB 2082 (by decide +kernel) (by decide +kernel)
theorem t_2084 : (Jvm.Cond.instanceMethod ({ cls := "MakerStartsModel", name := "actOf", desc := "(IJ)I" } : Jvm.MethodName)) ∈ TB := inTB 2084 (by decide +kernel) (by decide +kernel)
theorem t_2085 : (Jvm.Cond.code ({ cls := "MakerStartsModel", name := "actOf", desc := "(IJ)I" } : Jvm.MethodName) prog_14_method_31_code (6 : Nat) (Option.some Jvm.ClassFile.FieldType.int)) ∈ TB := inTB 2085 (by decide +kernel) (by decide +kernel)
theorem t_2181 : (Jvm.Cond.methodLink "MakerStartsModel" (465 : Nat) ({ cls := "MakerStartsModel", name := "steps", desc := "()Z" } : Jvm.MethodName)) ∈ TB := inTB 2181 (by decide +kernel) (by decide +kernel)
theorem t_2183 : (Jvm.Cond.instanceMethod ({ cls := "MakerStartsModel", name := "steps", desc := "()Z" } : Jvm.MethodName)) ∈ TB := inTB 2183 (by decide +kernel) (by decide +kernel)
theorem t_2184 : (Jvm.Cond.code ({ cls := "MakerStartsModel", name := "steps", desc := "()Z" } : Jvm.MethodName) prog_14_method_60_code (1 : Nat) (Option.some Jvm.ClassFile.FieldType.boolean)) ∈ TB := inTB 2184 (by decide +kernel) (by decide +kernel)
theorem t_2189 : (Jvm.Cond.methodLink "MakerStartsModel" (453 : Nat) ({ cls := "MakerStartsModel", name := "work", desc := "(II)I" } : Jvm.MethodName)) ∈ TB := inTB 2189 (by decide +kernel) (by decide +kernel)
theorem t_2191 : (Jvm.Cond.instanceMethod ({ cls := "MakerStartsModel", name := "work", desc := "(II)I" } : Jvm.MethodName)) ∈ TB := inTB 2191 (by decide +kernel) (by decide +kernel)
theorem t_2192 : (Jvm.Cond.code ({ cls := "MakerStartsModel", name := "work", desc := "(II)I" } : Jvm.MethodName) prog_14_method_61_code (5 : Nat) (Option.some Jvm.ClassFile.FieldType.int)) ∈ TB := inTB 2192 (by decide +kernel) (by decide +kernel)
theorem t_2197 : (Jvm.Cond.methodLink "MakerStartsModel" (449 : Nat) ({ cls := "MakerStartsModel", name := "callAct", desc := "(J)I" } : Jvm.MethodName)) ∈ TB := inTB 2197 (by decide +kernel) (by decide +kernel)
theorem t_2199 : (Jvm.Cond.instanceMethod ({ cls := "MakerStartsModel", name := "callAct", desc := "(J)I" } : Jvm.MethodName)) ∈ TB := inTB 2199 (by decide +kernel) (by decide +kernel)
theorem t_2200 : (Jvm.Cond.code ({ cls := "MakerStartsModel", name := "callAct", desc := "(J)I" } : Jvm.MethodName) prog_14_method_64_code (5 : Nat) (Option.some Jvm.ClassFile.FieldType.int)) ∈ TB := inTB 2200 (by decide +kernel) (by decide +kernel)
theorem t_2201 : (Jvm.Cond.methodLink "MakerStartsModel" (471 : Nat) ({ cls := "MakerStartsModel", name := "runBody", desc := "(II)I" } : Jvm.MethodName)) ∈ TB := inTB 2201 (by decide +kernel) (by decide +kernel)
theorem t_2203 : (Jvm.Cond.instanceMethod ({ cls := "MakerStartsModel", name := "runBody", desc := "(II)I" } : Jvm.MethodName)) ∈ TB := inTB 2203 (by decide +kernel) (by decide +kernel)
theorem t_2204 : (Jvm.Cond.code ({ cls := "MakerStartsModel", name := "runBody", desc := "(II)I" } : Jvm.MethodName) prog_14_method_65_code (5 : Nat) (Option.some Jvm.ClassFile.FieldType.int)) ∈ TB := inTB 2204 (by decide +kernel) (by decide +kernel)
theorem t_2205 : (Jvm.Cond.methodLink "MakerStartsModel" (474 : Nat) ({ cls := "MakerStartsModel", name := "run", desc := "(II)I" } : Jvm.MethodName)) ∈ TB := inTB 2205 (by decide +kernel) (by decide +kernel)
theorem t_2207 : (Jvm.Cond.instanceMethod ({ cls := "MakerStartsModel", name := "run", desc := "(II)I" } : Jvm.MethodName)) ∈ TB := inTB 2207 (by decide +kernel) (by decide +kernel)
theorem t_2208 : (Jvm.Cond.code ({ cls := "MakerStartsModel", name := "run", desc := "(II)I" } : Jvm.MethodName) prog_14_method_66_code (5 : Nat) (Option.some Jvm.ClassFile.FieldType.int)) ∈ TB := inTB 2208 (by decide +kernel) (by decide +kernel)
theorem dX12_actOf_0 : decode cX12_actOf 0 = .ok (.iload_n 1, 1) := by decide +kernel
theorem dX12_actOf_1 : decode cX12_actOf 1 = .ok (.istore 4, 2) := by decide +kernel
theorem dX12_actOf_3 : decode cX12_actOf 3 = .ok (.iload 4, 2) := by decide +kernel
theorem dX12_actOf_5 : decode cX12_actOf 5 = .ok (.iconst (-1), 1) := by decide +kernel
theorem dX12_actOf_6 : decode cX12_actOf 6 = .ok (.if_icmp .eq 81, 3) := by decide +kernel
theorem dX12_actOf_9 : decode cX12_actOf 9 = .ok (.iconst 0, 1) := by decide +kernel
theorem dX12_actOf_10 : decode cX12_actOf 10 = .ok (.istore 5, 2) := by decide +kernel
theorem dX12_actOf_12 : decode cX12_actOf 12 = .ok (.iload 5, 2) := by decide +kernel
theorem dX12_actOf_14 : decode cX12_actOf 14 = .ok (.aload_n 0, 1) := by decide +kernel
theorem dX12_actOf_15 : decode cX12_actOf 15 = .ok (.getfield 78, 3) := by decide +kernel
theorem dX12_actOf_18 : decode cX12_actOf 18 = .ok (.iload 4, 2) := by decide +kernel
theorem dX12_actOf_20 : decode cX12_actOf 20 = .ok (.iaload, 1) := by decide +kernel
theorem dX12_actOf_21 : decode cX12_actOf 21 = .ok (.if_icmp .ge 54, 3) := by decide +kernel
theorem dX12_actOf_24 : decode cX12_actOf 24 = .ok (.aload_n 0, 1) := by decide +kernel
theorem dX12_actOf_25 : decode cX12_actOf 25 = .ok (.getfield 81, 3) := by decide +kernel
theorem dX12_actOf_28 : decode cX12_actOf 28 = .ok (.bipush 8, 2) := by decide +kernel
theorem dX12_actOf_30 : decode cX12_actOf 30 = .ok (.iload 4, 2) := by decide +kernel
theorem dX12_actOf_32 : decode cX12_actOf 32 = .ok (.imul, 1) := by decide +kernel
theorem dX12_actOf_33 : decode cX12_actOf 33 = .ok (.iload 5, 2) := by decide +kernel
theorem dX12_actOf_35 : decode cX12_actOf 35 = .ok (.iadd, 1) := by decide +kernel
theorem dX12_actOf_36 : decode cX12_actOf 36 = .ok (.iaload, 1) := by decide +kernel
theorem dX12_actOf_37 : decode cX12_actOf 37 = .ok (.bipush 6, 2) := by decide +kernel
theorem dX12_actOf_39 : decode cX12_actOf 39 = .ok (.if_icmp .ne 30, 3) := by decide +kernel
theorem dX12_actOf_42 : decode cX12_actOf 42 = .ok (.aload_n 0, 1) := by decide +kernel
theorem dX12_actOf_43 : decode cX12_actOf 43 = .ok (.getfield 84, 3) := by decide +kernel
theorem dX12_actOf_46 : decode cX12_actOf 46 = .ok (.bipush 8, 2) := by decide +kernel
theorem dX12_actOf_48 : decode cX12_actOf 48 = .ok (.iload 4, 2) := by decide +kernel
theorem dX12_actOf_50 : decode cX12_actOf 50 = .ok (.imul, 1) := by decide +kernel
theorem dX12_actOf_51 : decode cX12_actOf 51 = .ok (.iload 5, 2) := by decide +kernel
theorem dX12_actOf_53 : decode cX12_actOf 53 = .ok (.iadd, 1) := by decide +kernel
theorem dX12_actOf_54 : decode cX12_actOf 54 = .ok (.laload, 1) := by decide +kernel
theorem dX12_actOf_55 : decode cX12_actOf 55 = .ok (.lload_n 2, 1) := by decide +kernel
theorem dX12_actOf_56 : decode cX12_actOf 56 = .ok (.lcmp, 1) := by decide +kernel
theorem dX12_actOf_57 : decode cX12_actOf 57 = .ok (.ifCond .ne 12, 3) := by decide +kernel
theorem dX12_actOf_60 : decode cX12_actOf 60 = .ok (.bipush 8, 2) := by decide +kernel
theorem dX12_actOf_62 : decode cX12_actOf 62 = .ok (.iload 4, 2) := by decide +kernel
theorem dX12_actOf_64 : decode cX12_actOf 64 = .ok (.imul, 1) := by decide +kernel
theorem dX12_actOf_65 : decode cX12_actOf 65 = .ok (.iload 5, 2) := by decide +kernel
theorem dX12_actOf_67 : decode cX12_actOf 67 = .ok (.iadd, 1) := by decide +kernel
theorem dX12_actOf_68 : decode cX12_actOf 68 = .ok (.ireturn, 1) := by decide +kernel
theorem dX12_callAct_0 : decode cX12_callAct 0 = .ok (.aload_n 0, 1) := by decide +kernel
theorem dX12_callAct_1 : decode cX12_callAct 1 = .ok (.aload_n 0, 1) := by decide +kernel
theorem dX12_callAct_2 : decode cX12_callAct 2 = .ok (.getfield 165, 3) := by decide +kernel
theorem dX12_callAct_5 : decode cX12_callAct 5 = .ok (.aload_n 0, 1) := by decide +kernel
theorem dX12_callAct_6 : decode cX12_callAct 6 = .ok (.getfield 456, 3) := by decide +kernel
theorem dX12_callAct_9 : decode cX12_callAct 9 = .ok (.iaload, 1) := by decide +kernel
theorem dX12_callAct_10 : decode cX12_callAct 10 = .ok (.lload_n 1, 1) := by decide +kernel
theorem dX12_callAct_11 : decode cX12_callAct 11 = .ok (.invokevirtual 351, 3) := by decide +kernel
theorem dX12_callAct_14 : decode cX12_callAct 14 = .ok (.istore_n 3, 1) := by decide +kernel
theorem dX12_callAct_15 : decode cX12_callAct 15 = .ok (.aload_n 0, 1) := by decide +kernel
theorem dX12_callAct_16 : decode cX12_callAct 16 = .ok (.getfield 462, 3) := by decide +kernel
theorem dX12_callAct_19 : decode cX12_callAct 19 = .ok (.bipush 24, 2) := by decide +kernel
theorem dX12_callAct_21 : decode cX12_callAct 21 = .ok (.if_icmp .ne 11, 3) := by decide +kernel
theorem dX12_callAct_32 : decode cX12_callAct 32 = .ok (.aload_n 0, 1) := by decide +kernel
theorem dX12_callAct_33 : decode cX12_callAct 33 = .ok (.invokevirtual 465, 3) := by decide +kernel
theorem dX12_callAct_36 : decode cX12_callAct 36 = .ok (.ifCond .ne 5, 3) := by decide +kernel
theorem dX12_callAct_41 : decode cX12_callAct 41 = .ok (.aload_n 0, 1) := by decide +kernel
theorem dX12_callAct_42 : decode cX12_callAct 42 = .ok (.dup, 1) := by decide +kernel
theorem dX12_callAct_43 : decode cX12_callAct 43 = .ok (.getfield 462, 3) := by decide +kernel
theorem dX12_callAct_46 : decode cX12_callAct 46 = .ok (.iconst 1, 1) := by decide +kernel
theorem dX12_callAct_47 : decode cX12_callAct 47 = .ok (.iadd, 1) := by decide +kernel
theorem dX12_callAct_48 : decode cX12_callAct 48 = .ok (.putfield 462, 3) := by decide +kernel
theorem dX12_callAct_51 : decode cX12_callAct 51 = .ok (.aload_n 0, 1) := by decide +kernel
theorem dX12_callAct_52 : decode cX12_callAct 52 = .ok (.iconst 0, 1) := by decide +kernel
theorem dX12_callAct_53 : decode cX12_callAct 53 = .ok (.putfield 468, 3) := by decide +kernel
theorem dX12_callAct_56 : decode cX12_callAct 56 = .ok (.aload_n 0, 1) := by decide +kernel
theorem dX12_callAct_57 : decode cX12_callAct 57 = .ok (.aload_n 0, 1) := by decide +kernel
theorem dX12_callAct_58 : decode cX12_callAct 58 = .ok (.getfield 96, 3) := by decide +kernel
theorem dX12_callAct_61 : decode cX12_callAct 61 = .ok (.iload_n 3, 1) := by decide +kernel
theorem dX12_callAct_62 : decode cX12_callAct 62 = .ok (.iaload, 1) := by decide +kernel
theorem dX12_callAct_63 : decode cX12_callAct 63 = .ok (.aload_n 0, 1) := by decide +kernel
theorem dX12_callAct_64 : decode cX12_callAct 64 = .ok (.getfield 462, 3) := by decide +kernel
theorem dX12_callAct_67 : decode cX12_callAct 67 = .ok (.invokevirtual 471, 3) := by decide +kernel
theorem dX12_run_0 : decode cX12_run 0 = .ok (.aload_n 0, 1) := by decide +kernel
theorem dX12_run_1 : decode cX12_run 1 = .ok (.getfield 126, 3) := by decide +kernel
theorem dX12_run_4 : decode cX12_run 4 = .ok (.iload_n 1, 1) := by decide +kernel
theorem dX12_run_5 : decode cX12_run 5 = .ok (.iaload, 1) := by decide +kernel
theorem dX12_run_6 : decode cX12_run 6 = .ok (.tableswitch 366 10 17 #[46, 124, 167, 266, 278, 285, 366, 229], 46) := by decide +kernel
theorem dX12_run_235 : decode cX12_run 235 = .ok (.aload_n 0, 1) := by decide +kernel
theorem dX12_run_236 : decode cX12_run 236 = .ok (.aload_n 0, 1) := by decide +kernel
theorem dX12_run_237 : decode cX12_run 237 = .ok (.getfield 129, 3) := by decide +kernel
theorem dX12_run_240 : decode cX12_run 240 = .ok (.iload_n 1, 1) := by decide +kernel
theorem dX12_run_241 : decode cX12_run 241 = .ok (.iaload, 1) := by decide +kernel
theorem dX12_run_242 : decode cX12_run 242 = .ok (.iload_n 2, 1) := by decide +kernel
theorem dX12_run_243 : decode cX12_run 243 = .ok (.invokevirtual 453, 3) := by decide +kernel
theorem dX12_runBody_0 : decode cX12_runBody 0 = .ok (.aload_n 0, 1) := by decide +kernel
theorem dX12_runBody_1 : decode cX12_runBody 1 = .ok (.getfield 129, 3) := by decide +kernel
theorem dX12_runBody_4 : decode cX12_runBody 4 = .ok (.iload_n 1, 1) := by decide +kernel
theorem dX12_runBody_5 : decode cX12_runBody 5 = .ok (.iaload, 1) := by decide +kernel
theorem dX12_runBody_6 : decode cX12_runBody 6 = .ok (.istore_n 3, 1) := by decide +kernel
theorem dX12_runBody_7 : decode cX12_runBody 7 = .ok (.iload_n 3, 1) := by decide +kernel
theorem dX12_runBody_8 : decode cX12_runBody 8 = .ok (.ifCond .eq 38, 3) := by decide +kernel
theorem dX12_runBody_11 : decode cX12_runBody 11 = .ok (.aload_n 0, 1) := by decide +kernel
theorem dX12_runBody_12 : decode cX12_runBody 12 = .ok (.invokevirtual 465, 3) := by decide +kernel
theorem dX12_runBody_15 : decode cX12_runBody 15 = .ok (.ifCond .ne 5, 3) := by decide +kernel
theorem dX12_runBody_20 : decode cX12_runBody 20 = .ok (.aload_n 0, 1) := by decide +kernel
theorem dX12_runBody_21 : decode cX12_runBody 21 = .ok (.iload_n 3, 1) := by decide +kernel
theorem dX12_runBody_22 : decode cX12_runBody 22 = .ok (.iload_n 2, 1) := by decide +kernel
theorem dX12_runBody_23 : decode cX12_runBody 23 = .ok (.invokevirtual 474, 3) := by decide +kernel
theorem dX12_steps_0 : decode cX12_steps 0 = .ok (.aload_n 0, 1) := by decide +kernel
theorem dX12_steps_1 : decode cX12_steps 1 = .ok (.getfield 430, 3) := by decide +kernel
theorem dX12_steps_4 : decode cX12_steps 4 = .ok (.bipush 120, 2) := by decide +kernel
theorem dX12_steps_6 : decode cX12_steps 6 = .ok (.if_icmp .ne 11, 3) := by decide +kernel
theorem dX12_steps_17 : decode cX12_steps 17 = .ok (.aload_n 0, 1) := by decide +kernel
theorem dX12_steps_18 : decode cX12_steps 18 = .ok (.dup, 1) := by decide +kernel
theorem dX12_steps_19 : decode cX12_steps 19 = .ok (.getfield 430, 3) := by decide +kernel
theorem dX12_steps_22 : decode cX12_steps 22 = .ok (.iconst 1, 1) := by decide +kernel
theorem dX12_steps_23 : decode cX12_steps 23 = .ok (.iadd, 1) := by decide +kernel
theorem dX12_steps_24 : decode cX12_steps 24 = .ok (.putfield 430, 3) := by decide +kernel
theorem dX12_steps_27 : decode cX12_steps 27 = .ok (.iconst 1, 1) := by decide +kernel
theorem dX12_steps_28 : decode cX12_steps 28 = .ok (.ireturn, 1) := by decide +kernel
theorem dX12_work_0 : decode cX12_work 0 = .ok (.aload_n 0, 1) := by decide +kernel
theorem dX12_work_1 : decode cX12_work 1 = .ok (.getfield 443, 3) := by decide +kernel
theorem dX12_work_4 : decode cX12_work 4 = .ok (.ifCond .eq 5, 3) := by decide +kernel
theorem dX12_work_9 : decode cX12_work 9 = .ok (.aload_n 0, 1) := by decide +kernel
theorem dX12_work_10 : decode cX12_work 10 = .ok (.getfield 126, 3) := by decide +kernel
theorem dX12_work_13 : decode cX12_work 13 = .ok (.iload_n 1, 1) := by decide +kernel
theorem dX12_work_14 : decode cX12_work 14 = .ok (.iaload, 1) := by decide +kernel
theorem dX12_work_15 : decode cX12_work 15 = .ok (.tableswitch 117 1 6 #[37, 44, 93, 82, 117, 104], 37) := by decide +kernel
theorem dX12_work_108 : decode cX12_work 108 = .ok (.aload_n 0, 1) := by decide +kernel
theorem dX12_work_109 : decode cX12_work 109 = .ok (.aload_n 0, 1) := by decide +kernel
theorem dX12_work_110 : decode cX12_work 110 = .ok (.getfield 147, 3) := by decide +kernel
theorem dX12_work_113 : decode cX12_work 113 = .ok (.iload_n 1, 1) := by decide +kernel
theorem dX12_work_114 : decode cX12_work 114 = .ok (.laload, 1) := by decide +kernel
theorem dX12_work_115 : decode cX12_work 115 = .ok (.invokevirtual 449, 3) := by decide +kernel
theorem dX12_work_132 : decode cX12_work 132 = .ok (.aload_n 0, 1) := by decide +kernel
theorem dX12_work_133 : decode cX12_work 133 = .ok (.aload_n 0, 1) := by decide +kernel
theorem dX12_work_134 : decode cX12_work 134 = .ok (.getfield 129, 3) := by decide +kernel
theorem dX12_work_137 : decode cX12_work 137 = .ok (.iload_n 1, 1) := by decide +kernel
theorem dX12_work_138 : decode cX12_work 138 = .ok (.iaload, 1) := by decide +kernel
theorem dX12_work_139 : decode cX12_work 139 = .ok (.iload_n 2, 1) := by decide +kernel
theorem dX12_work_140 : decode cX12_work 140 = .ok (.invokevirtual 453, 3) := by decide +kernel
/-- what lies in the rows of the reference when it has read a text whose act's one statement is return f()+1+1..: kn j is the place of the EXP with j signs + in it -/
def Dp (kf af : Nat → Int32) (nf : Nat → Int64) (tm mkf : Nat → Int32) (mnf : Nat → Int64) (mbf ttf : Nat → Int32) (kn : Nat → Nat) (nn se tt bb ss : Nat) (nm : Int64) : Prop :=
  (∀ j, j ≤ nn → kn j < 3400) ∧ kf (kn 0) = 3 ∧ (∀ j, j < nn → kf (kn (j + 1)) = 5 ∧ af (kn (j + 1)) = nI (kn j)) ∧ nf (kn 0) = nm ∧ se < 210 ∧ ttf se = nI tt ∧ tt < 16 ∧ ¬ tm tt ≤ 0 ∧
    mkf (8 * tt) = 6 ∧ mnf (8 * tt) = nm ∧ mbf (8 * tt) = nI bb ∧ bb < 3400 ∧ af bb = nI ss ∧ 0 < ss ∧ ss < 3400 ∧ kf ss = 17 ∧ af ss = nI (kn nn)
theorem dp_cmp (x : Int64) : lg_cmp x x = 0 := by simp [lg_cmp]

set_option maxHeartbeats 4000000 in
set_option maxRecDepth 100000 in
theorem d_actOf (l : Launch) (D : va_G) (cy : Nat → ClassId) (sz : Nat) (hm : Nat) (ma : Nat → Nat) (fv : Nat → Value) (kf : Nat → Int32) (af : Nat → Int32) (nf : Nat → Int64) (tm : Nat → Int32) (mkf : Nat → Int32) (mnf : Nat → Int64) (mbf : Nat → Int32) (ttf : Nat → Int32) (kn : Nat → Nat) (nn : Nat) (se : Nat) (tt : Nat) (bb : Nat) (ss : Nat) (nm : Int64) (st : Nat) (dp : Nat) (rv : Int32) (cd : Int32) (md : Int32) (hf : Int32) (hd : Dp kf af nf tm mkf mnf mbf ttf kn nn se tt bb ss nm) : Met l yX12_actOf (.code yX12_actOf cX12_actOf 6 (some .int) :: TB) ({ frames := 0, cells := 0, slots := 0, locals := 0 }) (va_Pc [.ref hm, .int (nI tt), .long nm] (fun U => U.heap.size = sz ∧ va_P D vwCl [(hm, .inr (12, [.int cd, .ref (ma 1), (fv 2), (fv 3), .ref (ma 4), (fv 5), (fv 6), (fv 7), (fv 8), (fv 9), (fv 10), (fv 11), (fv 12), (fv 13), (fv 14), .int hf, (fv 16), .ref (ma 17), .ref (ma 18), .ref (ma 19), .ref (ma 20), .ref (ma 21), .ref (ma 22), .ref (ma 23), .ref (ma 24), .ref (ma 25), .ref (ma 26), .ref (ma 27), .ref (ma 28), .ref (ma 29), .ref (ma 30), .ref (ma 31), .ref (ma 32), .ref (ma 33), .ref (ma 34), .ref (ma 35), .ref (ma 36), .ref (ma 37), .ref (ma 38), .ref (ma 39), .ref (ma 40), .ref (ma 41), .ref (ma 42), .ref (ma 43), .ref (ma 44), .ref (ma 45), .ref (ma 46), .ref (ma 47), .ref (ma 48), (fv 49), (fv 50), (fv 51), (fv 52), (fv 53), (fv 54), (fv 55), (fv 56), (fv 57), (fv 58), .ref (ma 59), .ref (ma 60), (fv 61), (fv 62), .int (nI st), .int (nI dp), .int 0, .int rv, .ref (ma 67), .ref (ma 68), .ref (ma 69), .int md, (fv 71), .int (nI se), .ref (ma 73)])), ((ma 39), .inl (cy 1, 3400, .inl kf)), ((ma 40), .inl (cy 1, 3400, .inl af)), ((ma 46), .inl (cy 2, 3400, .inr (.inl nf))), ((ma 23), .inl (cy 1, 16, .inl tm)), ((ma 24), .inl (cy 1, 128, .inl mkf)), ((ma 25), .inl (cy 2, 128, .inr (.inl mnf))), ((ma 29), .inl (cy 1, 128, .inl mbf)), ((ma 68), .inl (cy 1, 210, .inl ttf))] U.heap ∧ va_K D vwCl (TY cy) U ∧ va_D (fun _ => True) [(hm, .inr (12, [.int cd, .ref (ma 1), (fv 2), (fv 3), .ref (ma 4), (fv 5), (fv 6), (fv 7), (fv 8), (fv 9), (fv 10), (fv 11), (fv 12), (fv 13), (fv 14), .int hf, (fv 16), .ref (ma 17), .ref (ma 18), .ref (ma 19), .ref (ma 20), .ref (ma 21), .ref (ma 22), .ref (ma 23), .ref (ma 24), .ref (ma 25), .ref (ma 26), .ref (ma 27), .ref (ma 28), .ref (ma 29), .ref (ma 30), .ref (ma 31), .ref (ma 32), .ref (ma 33), .ref (ma 34), .ref (ma 35), .ref (ma 36), .ref (ma 37), .ref (ma 38), .ref (ma 39), .ref (ma 40), .ref (ma 41), .ref (ma 42), .ref (ma 43), .ref (ma 44), .ref (ma 45), .ref (ma 46), .ref (ma 47), .ref (ma 48), (fv 49), (fv 50), (fv 51), (fv 52), (fv 53), (fv 54), (fv 55), (fv 56), (fv 57), (fv 58), .ref (ma 59), .ref (ma 60), (fv 61), (fv 62), .int (nI st), .int (nI dp), .int 0, .int rv, .ref (ma 67), .ref (ma 68), .ref (ma 69), .int md, (fv 71), .int (nI se), .ref (ma 73)])), ((ma 39), .inl (cy 1, 3400, .inl kf)), ((ma 40), .inl (cy 1, 3400, .inl af)), ((ma 46), .inl (cy 2, 3400, .inr (.inl nf))), ((ma 23), .inl (cy 1, 16, .inl tm)), ((ma 24), .inl (cy 1, 128, .inl mkf)), ((ma 25), .inl (cy 2, 128, .inr (.inl mnf))), ((ma 29), .inl (cy 1, 128, .inl mbf)), ((ma 68), .inl (cy 1, 210, .inl ttf))])) (va_Qi (fun (r : Int32) (u : Unit) => r = nI (8 * tt)) (fun (u : Unit) t => va_P D vwCl [(hm, .inr (12, [.int cd, .ref (ma 1), (fv 2), (fv 3), .ref (ma 4), (fv 5), (fv 6), (fv 7), (fv 8), (fv 9), (fv 10), (fv 11), (fv 12), (fv 13), (fv 14), .int hf, (fv 16), .ref (ma 17), .ref (ma 18), .ref (ma 19), .ref (ma 20), .ref (ma 21), .ref (ma 22), .ref (ma 23), .ref (ma 24), .ref (ma 25), .ref (ma 26), .ref (ma 27), .ref (ma 28), .ref (ma 29), .ref (ma 30), .ref (ma 31), .ref (ma 32), .ref (ma 33), .ref (ma 34), .ref (ma 35), .ref (ma 36), .ref (ma 37), .ref (ma 38), .ref (ma 39), .ref (ma 40), .ref (ma 41), .ref (ma 42), .ref (ma 43), .ref (ma 44), .ref (ma 45), .ref (ma 46), .ref (ma 47), .ref (ma 48), (fv 49), (fv 50), (fv 51), (fv 52), (fv 53), (fv 54), (fv 55), (fv 56), (fv 57), (fv 58), .ref (ma 59), .ref (ma 60), (fv 61), (fv 62), .int (nI st), .int (nI dp), .int 0, .int rv, .ref (ma 67), .ref (ma 68), .ref (ma 69), .int md, (fv 71), .int (nI se), .ref (ma 73)])), ((ma 39), .inl (cy 1, 3400, .inl kf)), ((ma 40), .inl (cy 1, 3400, .inl af)), ((ma 46), .inl (cy 2, 3400, .inr (.inl nf))), ((ma 23), .inl (cy 1, 16, .inl tm)), ((ma 24), .inl (cy 1, 128, .inl mkf)), ((ma 25), .inl (cy 2, 128, .inr (.inl mnf))), ((ma 29), .inl (cy 1, 128, .inl mbf)), ((ma 68), .inl (cy 1, 210, .inl ttf))] t.heap ∧ va_D (va_A [(hm, .inr (12, [.int cd, .ref (ma 1), (fv 2), (fv 3), .ref (ma 4), (fv 5), (fv 6), (fv 7), (fv 8), (fv 9), (fv 10), (fv 11), (fv 12), (fv 13), (fv 14), .int hf, (fv 16), .ref (ma 17), .ref (ma 18), .ref (ma 19), .ref (ma 20), .ref (ma 21), .ref (ma 22), .ref (ma 23), .ref (ma 24), .ref (ma 25), .ref (ma 26), .ref (ma 27), .ref (ma 28), .ref (ma 29), .ref (ma 30), .ref (ma 31), .ref (ma 32), .ref (ma 33), .ref (ma 34), .ref (ma 35), .ref (ma 36), .ref (ma 37), .ref (ma 38), .ref (ma 39), .ref (ma 40), .ref (ma 41), .ref (ma 42), .ref (ma 43), .ref (ma 44), .ref (ma 45), .ref (ma 46), .ref (ma 47), .ref (ma 48), (fv 49), (fv 50), (fv 51), (fv 52), (fv 53), (fv 54), (fv 55), (fv 56), (fv 57), (fv 58), .ref (ma 59), .ref (ma 60), (fv 61), (fv 62), .int (nI st), .int (nI dp), .int 0, .int rv, .ref (ma 67), .ref (ma 68), .ref (ma 69), .int md, (fv 71), .int (nI se), .ref (ma 73)])), ((ma 39), .inl (cy 1, 3400, .inl kf)), ((ma 40), .inl (cy 1, 3400, .inl af)), ((ma 46), .inl (cy 2, 3400, .inr (.inl nf))), ((ma 23), .inl (cy 1, 16, .inl tm)), ((ma 24), .inl (cy 1, 128, .inl mkf)), ((ma 25), .inl (cy 2, 128, .inr (.inl mnf))), ((ma 29), .inl (cy 1, 128, .inl mbf)), ((ma 68), .inl (cy 1, 210, .inl ttf))] sz) [(hm, .inr (12, [.int cd, .ref (ma 1), (fv 2), (fv 3), .ref (ma 4), (fv 5), (fv 6), (fv 7), (fv 8), (fv 9), (fv 10), (fv 11), (fv 12), (fv 13), (fv 14), .int hf, (fv 16), .ref (ma 17), .ref (ma 18), .ref (ma 19), .ref (ma 20), .ref (ma 21), .ref (ma 22), .ref (ma 23), .ref (ma 24), .ref (ma 25), .ref (ma 26), .ref (ma 27), .ref (ma 28), .ref (ma 29), .ref (ma 30), .ref (ma 31), .ref (ma 32), .ref (ma 33), .ref (ma 34), .ref (ma 35), .ref (ma 36), .ref (ma 37), .ref (ma 38), .ref (ma 39), .ref (ma 40), .ref (ma 41), .ref (ma 42), .ref (ma 43), .ref (ma 44), .ref (ma 45), .ref (ma 46), .ref (ma 47), .ref (ma 48), (fv 49), (fv 50), (fv 51), (fv 52), (fv 53), (fv 54), (fv 55), (fv 56), (fv 57), (fv 58), .ref (ma 59), .ref (ma 60), (fv 61), (fv 62), .int (nI st), .int (nI dp), .int 0, .int rv, .ref (ma 67), .ref (ma 68), .ref (ma 69), .int md, (fv 71), .int (nI se), .ref (ma 73)])), ((ma 39), .inl (cy 1, 3400, .inl kf)), ((ma 40), .inl (cy 1, 3400, .inl af)), ((ma 46), .inl (cy 2, 3400, .inr (.inl nf))), ((ma 23), .inl (cy 1, 16, .inl tm)), ((ma 24), .inl (cy 1, 128, .inl mkf)), ((ma 25), .inl (cy 2, 128, .inr (.inl mnf))), ((ma 29), .inl (cy 1, 128, .inl mbf)), ((ma 68), .inl (cy 1, 210, .inl ttf))]) (va_A [(hm, .inr (12, [.int cd, .ref (ma 1), (fv 2), (fv 3), .ref (ma 4), (fv 5), (fv 6), (fv 7), (fv 8), (fv 9), (fv 10), (fv 11), (fv 12), (fv 13), (fv 14), .int hf, (fv 16), .ref (ma 17), .ref (ma 18), .ref (ma 19), .ref (ma 20), .ref (ma 21), .ref (ma 22), .ref (ma 23), .ref (ma 24), .ref (ma 25), .ref (ma 26), .ref (ma 27), .ref (ma 28), .ref (ma 29), .ref (ma 30), .ref (ma 31), .ref (ma 32), .ref (ma 33), .ref (ma 34), .ref (ma 35), .ref (ma 36), .ref (ma 37), .ref (ma 38), .ref (ma 39), .ref (ma 40), .ref (ma 41), .ref (ma 42), .ref (ma 43), .ref (ma 44), .ref (ma 45), .ref (ma 46), .ref (ma 47), .ref (ma 48), (fv 49), (fv 50), (fv 51), (fv 52), (fv 53), (fv 54), (fv 55), (fv 56), (fv 57), (fv 58), .ref (ma 59), .ref (ma 60), (fv 61), (fv 62), .int (nI st), .int (nI dp), .int 0, .int rv, .ref (ma 67), .ref (ma 68), .ref (ma 69), .int md, (fv 71), .int (nI se), .ref (ma 73)])), ((ma 39), .inl (cy 1, 3400, .inl kf)), ((ma 40), .inl (cy 1, 3400, .inl af)), ((ma 46), .inl (cy 2, 3400, .inr (.inl nf))), ((ma 23), .inl (cy 1, 16, .inl tm)), ((ma 24), .inl (cy 1, 128, .inl mkf)), ((ma 25), .inl (cy 2, 128, .inr (.inl mnf))), ((ma 29), .inl (cy 1, 128, .inl mbf)), ((ma 68), .inl (cy 1, 210, .inl ttf))] sz)) 0 0 (va_A [(hm, .inr (12, [.int cd, .ref (ma 1), (fv 2), (fv 3), .ref (ma 4), (fv 5), (fv 6), (fv 7), (fv 8), (fv 9), (fv 10), (fv 11), (fv 12), (fv 13), (fv 14), .int hf, (fv 16), .ref (ma 17), .ref (ma 18), .ref (ma 19), .ref (ma 20), .ref (ma 21), .ref (ma 22), .ref (ma 23), .ref (ma 24), .ref (ma 25), .ref (ma 26), .ref (ma 27), .ref (ma 28), .ref (ma 29), .ref (ma 30), .ref (ma 31), .ref (ma 32), .ref (ma 33), .ref (ma 34), .ref (ma 35), .ref (ma 36), .ref (ma 37), .ref (ma 38), .ref (ma 39), .ref (ma 40), .ref (ma 41), .ref (ma 42), .ref (ma 43), .ref (ma 44), .ref (ma 45), .ref (ma 46), .ref (ma 47), .ref (ma 48), (fv 49), (fv 50), (fv 51), (fv 52), (fv 53), (fv 54), (fv 55), (fv 56), (fv 57), (fv 58), .ref (ma 59), .ref (ma 60), (fv 61), (fv 62), .int (nI st), .int (nI dp), .int 0, .int rv, .ref (ma 67), .ref (ma 68), .ref (ma 69), .int md, (fv 71), .int (nI se), .ref (ma 73)])), ((ma 39), .inl (cy 1, 3400, .inl kf)), ((ma 40), .inl (cy 1, 3400, .inl af)), ((ma 46), .inl (cy 2, 3400, .inr (.inl nf))), ((ma 23), .inl (cy 1, 16, .inl tm)), ((ma 24), .inl (cy 1, 128, .inl mkf)), ((ma 25), .inl (cy 2, 128, .inr (.inl mnf))), ((ma 29), .inl (cy 1, 128, .inl mbf)), ((ma 68), .inl (cy 1, 210, .inl ttf))] sz) := by
  refine Met.ofW (cc := cX12_actOf) (maxL := 6) (ret := (some .int)) (by decide) rfl ?_
  intro p e s m args below meth c s₁ B hml hv
  obtain ⟨rfl, hsz, hP, hK, hD0⟩ := hv
  have hx := B.exec
  have hb := B.bytes
  have hr := B.returns
  have hts := atoms_spec (ws := .code yX12_actOf cX12_actOf 6 (some .int) :: TB) B.pre
  have hT : ∀ w ∈ TB, w.before _ s = true := fun w h => hts w (List.mem_cons_of_mem _ h)
  have hown : s.vm.findClass "MakerStartsModel" = some m.cls := findClass_of_methodNamed B.named
  have hlocks := B.notSynchronized
  subst hsz
  have hD := hD0.self (sz := s.heap.size)
  generalize hAe : va_A [(hm, .inr (12, [.int cd, .ref (ma 1), (fv 2), (fv 3), .ref (ma 4), (fv 5), (fv 6), (fv 7), (fv 8), (fv 9), (fv 10), (fv 11), (fv 12), (fv 13), (fv 14), .int hf, (fv 16), .ref (ma 17), .ref (ma 18), .ref (ma 19), .ref (ma 20), .ref (ma 21), .ref (ma 22), .ref (ma 23), .ref (ma 24), .ref (ma 25), .ref (ma 26), .ref (ma 27), .ref (ma 28), .ref (ma 29), .ref (ma 30), .ref (ma 31), .ref (ma 32), .ref (ma 33), .ref (ma 34), .ref (ma 35), .ref (ma 36), .ref (ma 37), .ref (ma 38), .ref (ma 39), .ref (ma 40), .ref (ma 41), .ref (ma 42), .ref (ma 43), .ref (ma 44), .ref (ma 45), .ref (ma 46), .ref (ma 47), .ref (ma 48), (fv 49), (fv 50), (fv 51), (fv 52), (fv 53), (fv 54), (fv 55), (fv 56), (fv 57), (fv 58), .ref (ma 59), .ref (ma 60), (fv 61), (fv 62), .int (nI st), .int (nI dp), .int 0, .int rv, .ref (ma 67), .ref (ma 68), .ref (ma 69), .int md, (fv 71), .int (nI se), .ref (ma 73)])), ((ma 39), .inl (cy 1, 3400, .inl kf)), ((ma 40), .inl (cy 1, 3400, .inl af)), ((ma 46), .inl (cy 2, 3400, .inr (.inl nf))), ((ma 23), .inl (cy 1, 16, .inl tm)), ((ma 24), .inl (cy 1, 128, .inl mkf)), ((ma 25), .inl (cy 2, 128, .inr (.inl mnf))), ((ma 29), .inl (cy 1, 128, .inl mbf)), ((ma 68), .inl (cy 1, 210, .inl ttf))] s.heap.size = A at hD  ⊢
  have hA : ∀ q : Nat, s.heap.size ≤ q → A q := fun q h => by rw [← hAe]; exact Or.inr h
  have hS : va_S A s.heap s.heap [] := va_S.rf
  have hP : va_P D vwCl [(hm, .inr (12, [.int cd, .ref (ma 1), (fv 2), (fv 3), .ref (ma 4), (fv 5), (fv 6), (fv 7), (fv 8), (fv 9), (fv 10), (fv 11), (fv 12), (fv 13), (fv 14), .int hf, (fv 16), .ref (ma 17), .ref (ma 18), .ref (ma 19), .ref (ma 20), .ref (ma 21), .ref (ma 22), .ref (ma 23), .ref (ma 24), .ref (ma 25), .ref (ma 26), .ref (ma 27), .ref (ma 28), .ref (ma 29), .ref (ma 30), .ref (ma 31), .ref (ma 32), .ref (ma 33), .ref (ma 34), .ref (ma 35), .ref (ma 36), .ref (ma 37), .ref (ma 38), .ref (ma 39), .ref (ma 40), .ref (ma 41), .ref (ma 42), .ref (ma 43), .ref (ma 44), .ref (ma 45), .ref (ma 46), .ref (ma 47), .ref (ma 48), (fv 49), (fv 50), (fv 51), (fv 52), (fv 53), (fv 54), (fv 55), (fv 56), (fv 57), (fv 58), .ref (ma 59), .ref (ma 60), (fv 61), (fv 62), .int (nI st), .int (nI dp), .int 0, .int rv, .ref (ma 67), .ref (ma 68), .ref (ma 69), .int md, (fv 71), .int (nI se), .ref (ma 73)])), ((ma 39), .inl (cy 1, 3400, .inl kf)), ((ma 40), .inl (cy 1, 3400, .inl af)), ((ma 46), .inl (cy 2, 3400, .inr (.inl nf))), ((ma 23), .inl (cy 1, 16, .inl tm)), ((ma 24), .inl (cy 1, 128, .inl mkf)), ((ma 25), .inl (cy 2, 128, .inr (.inl mnf))), ((ma 29), .inl (cy 1, 128, .inl mbf)), ((ma 68), .inl (cy 1, 210, .inl ttf))] s.heap := hP
  have hl := lv_entry ([.ref hm, .int (nI tt), .long nm]) (n := 6) (Nat.le_of_ble_eq_true rfl)
  rw [lg_entry_eq]
  generalize (lg_sl ([.ref hm, .int (nI tt), .long nm]) ++ List.replicate (6 - (lg_sl ([.ref hm, .int (nI tt), .long nm])).length) Slot.unset).toArray = ls at hl ⊢
  have hl : lv_has ls 6 [(0, .ref hm), (1, .int (nI tt)), (2, .long nm)] := hl
  obtain ⟨dK, dK0, dKj, dN0, dse, dtt, dt, dtm, dmk, dmn, dmb, dbb, dab, dss0, dss, dks, das⟩ := hd
  refine lv_iload_n hx hb dX12_actOf_0 rfl (lv_at hl 1 rfl) ?_
  refine lv_istore (lv' := [(4, .int (nI tt)), (0, .ref hm), (1, .int (nI tt)), (2, .long nm)]) hx hb dX12_actOf_1 hl (by decide) rfl (fun ls hl => ?_)
  refine lv_iload hx hb dX12_actOf_3 (lv_at hl 0 rfl) ?_
  refine lv_iconst (v := (-1)) hx hb dX12_actOf_5 (by decide) ?_
  refine lv_icmp_eq (tgt := 87) hx hb dX12_actOf_6 (by decide) (fun c9 => absurd c9 (fun h9 => nI_pos (n := tt) (by omega) (by rw [h9]; decide))) (fun _ => ?_)
  refine lv_iconst (v := 0) hx hb dX12_actOf_9 (by decide) ?_
  refine lv_istore (lv' := [(5, .int 0), (4, .int (nI tt)), (0, .ref hm), (1, .int (nI tt)), (2, .long nm)]) hx hb dX12_actOf_10 hl (by decide) rfl (fun ls hl => ?_)
  refine lv_iload hx hb dX12_actOf_12 (lv_at hl 0 rfl) ?_
  refine lv_aload_n hx hb dX12_actOf_14 rfl (lv_at hl 2 rfl) ?_
  refine va_get (D := D) (ci := 12) (v := .ref (ma 23)) (C := RX12) (T := TX12) (N := 74) hx hb hT i_TX12 hown hK hP 0 rfl rfl 23 (by decide) (hT _ t_1738) (fun _ h9 => h9) rfl dX12_actOf_15 ?_
  refine lv_iload hx hb dX12_actOf_18 (lv_at hl 1 rfl) ?_
  refine va_iald hx hb hK hP 4 1 rfl rfl (vp_in_nI dt (by decide)) dX12_actOf_20 ?_
  refine lv_topi (fun z1 e2 => ?_)
  refine lv_icmp_ge (tgt := 75) hx hb dX12_actOf_21 (by decide) (fun c9 => absurd c9 (by rw [e2, nI_clamp (n := tt) (by omega)]; exact dtm)) (fun _ => ?_)
  refine lv_aload_n hx hb dX12_actOf_24 rfl (lv_at hl 2 rfl) ?_
  refine va_get (D := D) (ci := 12) (v := .ref (ma 24)) (C := RX12) (T := TX12) (N := 74) hx hb hT i_TX12 hown hK hP 0 rfl rfl 24 (by decide) (hT _ t_1739) (fun _ h9 => h9) rfl dX12_actOf_25 ?_
  refine lv_bipush (v := 8) hx hb dX12_actOf_28 (by decide) ?_
  refine lv_iload hx hb dX12_actOf_30 (lv_at hl 1 rfl) ?_
  refine lv_imul hx hb dX12_actOf_32 ?_
  refine lv_topi (fun z3 e4 => ?_)
  obtain rfl : z3 = (nI (8 * tt)) := e4.trans (pk_mul 8 tt)
  refine lv_iload hx hb dX12_actOf_33 (lv_at hl 0 rfl) ?_
  refine lv_iadd hx hb dX12_actOf_35 ?_
  refine lv_topi (fun z5 e6 => ?_)
  obtain rfl : z5 = (nI (8 * tt)) := e6.trans (Int32.add_zero _)
  refine va_iald hx hb hK hP 5 1 rfl rfl (vp_in_nI (by omega) (by decide)) dX12_actOf_36 ?_
  refine lv_topi (fun z7 e8 => ?_)
  refine lv_bipush (v := 6) hx hb dX12_actOf_37 (by decide) ?_
  refine lv_icmp_ne (tgt := 69) hx hb dX12_actOf_39 (by decide) (fun c9 => absurd (by rw [e8, nI_clamp (n := 8 * tt) (by omega)]; exact dmk) c9) (fun _ => ?_)
  refine lv_aload_n hx hb dX12_actOf_42 rfl (lv_at hl 2 rfl) ?_
  refine va_get (D := D) (ci := 12) (v := .ref (ma 25)) (C := RX12) (T := TX12) (N := 74) hx hb hT i_TX12 hown hK hP 0 rfl rfl 25 (by decide) (hT _ t_1740) (fun _ h9 => h9) rfl dX12_actOf_43 ?_
  refine lv_bipush (v := 8) hx hb dX12_actOf_46 (by decide) ?_
  refine lv_iload hx hb dX12_actOf_48 (lv_at hl 1 rfl) ?_
  refine lv_imul hx hb dX12_actOf_50 ?_
  refine lv_topi (fun z9 e10 => ?_)
  obtain rfl : z9 = (nI (8 * tt)) := e10.trans (pk_mul 8 tt)
  refine lv_iload hx hb dX12_actOf_51 (lv_at hl 0 rfl) ?_
  refine lv_iadd hx hb dX12_actOf_53 ?_
  refine lv_topi (fun z11 e12 => ?_)
  obtain rfl : z11 = (nI (8 * tt)) := e12.trans (Int32.add_zero _)
  refine va_lald hx hb hK hP 6 2 rfl rfl (vp_in_nI (by omega) (by decide)) dX12_actOf_54 ?_
  refine lv_topl (fun z13 e14 => ?_)
  refine lv_lload_n hx hb dX12_actOf_55 rfl (lv_at hl 4 rfl) ?_
  refine W.lcmp hx hb dX12_actOf_56 ?_
  refine lv_topi (fun z15 e16 => ?_)
  refine lv_if_ne (tgt := 69) hx hb dX12_actOf_57 (by decide) (fun c9 => absurd (by rw [e16, e14, nI_clamp (n := 8 * tt) (by omega), dmn]; exact dp_cmp nm) c9) (fun _ => ?_)
  refine lv_bipush (v := 8) hx hb dX12_actOf_60 (by decide) ?_
  refine lv_iload hx hb dX12_actOf_62 (lv_at hl 1 rfl) ?_
  refine lv_imul hx hb dX12_actOf_64 ?_
  refine lv_topi (fun z17 e18 => ?_)
  obtain rfl : z17 = (nI (8 * tt)) := e18.trans (pk_mul 8 tt)
  refine lv_iload hx hb dX12_actOf_65 (lv_at hl 0 rfl) ?_
  refine lv_iadd hx hb dX12_actOf_67 ?_
  refine lv_topi (fun z19 e20 => ?_)
  obtain rfl : z19 = (nI (8 * tt)) := e20.trans (Int32.add_zero _)
  have hP9 := hP.sub (ws' := [(hm, .inr (12, [.int cd, .ref (ma 1), (fv 2), (fv 3), .ref (ma 4), (fv 5), (fv 6), (fv 7), (fv 8), (fv 9), (fv 10), (fv 11), (fv 12), (fv 13), (fv 14), .int hf, (fv 16), .ref (ma 17), .ref (ma 18), .ref (ma 19), .ref (ma 20), .ref (ma 21), .ref (ma 22), .ref (ma 23), .ref (ma 24), .ref (ma 25), .ref (ma 26), .ref (ma 27), .ref (ma 28), .ref (ma 29), .ref (ma 30), .ref (ma 31), .ref (ma 32), .ref (ma 33), .ref (ma 34), .ref (ma 35), .ref (ma 36), .ref (ma 37), .ref (ma 38), .ref (ma 39), .ref (ma 40), .ref (ma 41), .ref (ma 42), .ref (ma 43), .ref (ma 44), .ref (ma 45), .ref (ma 46), .ref (ma 47), .ref (ma 48), (fv 49), (fv 50), (fv 51), (fv 52), (fv 53), (fv 54), (fv 55), (fv 56), (fv 57), (fv 58), .ref (ma 59), .ref (ma 60), (fv 61), (fv 62), .int (nI st), .int (nI dp), .int 0, .int rv, .ref (ma 67), .ref (ma 68), .ref (ma 69), .int md, (fv 71), .int (nI se), .ref (ma 73)])), ((ma 39), .inl (cy 1, 3400, .inl kf)), ((ma 40), .inl (cy 1, 3400, .inl af)), ((ma 46), .inl (cy 2, 3400, .inr (.inl nf))), ((ma 23), .inl (cy 1, 16, .inl tm)), ((ma 24), .inl (cy 1, 128, .inl mkf)), ((ma 25), .inl (cy 2, 128, .inr (.inl mnf))), ((ma 29), .inl (cy 1, 128, .inl mbf)), ((ma 68), .inl (cy 1, 210, .inl ttf))]) [0, 1, 2, 3, 4, 5, 6, 7, 8] rfl
  have hD9 := hD.sub (ws' := [(hm, .inr (12, [.int cd, .ref (ma 1), (fv 2), (fv 3), .ref (ma 4), (fv 5), (fv 6), (fv 7), (fv 8), (fv 9), (fv 10), (fv 11), (fv 12), (fv 13), (fv 14), .int hf, (fv 16), .ref (ma 17), .ref (ma 18), .ref (ma 19), .ref (ma 20), .ref (ma 21), .ref (ma 22), .ref (ma 23), .ref (ma 24), .ref (ma 25), .ref (ma 26), .ref (ma 27), .ref (ma 28), .ref (ma 29), .ref (ma 30), .ref (ma 31), .ref (ma 32), .ref (ma 33), .ref (ma 34), .ref (ma 35), .ref (ma 36), .ref (ma 37), .ref (ma 38), .ref (ma 39), .ref (ma 40), .ref (ma 41), .ref (ma 42), .ref (ma 43), .ref (ma 44), .ref (ma 45), .ref (ma 46), .ref (ma 47), .ref (ma 48), (fv 49), (fv 50), (fv 51), (fv 52), (fv 53), (fv 54), (fv 55), (fv 56), (fv 57), (fv 58), .ref (ma 59), .ref (ma 60), (fv 61), (fv 62), .int (nI st), .int (nI dp), .int 0, .int rv, .ref (ma 67), .ref (ma 68), .ref (ma 69), .int md, (fv 71), .int (nI se), .ref (ma 73)])), ((ma 39), .inl (cy 1, 3400, .inl kf)), ((ma 40), .inl (cy 1, 3400, .inl af)), ((ma 46), .inl (cy 2, 3400, .inr (.inl nf))), ((ma 23), .inl (cy 1, 16, .inl tm)), ((ma 24), .inl (cy 1, 128, .inl mkf)), ((ma 25), .inl (cy 2, 128, .inr (.inl mnf))), ((ma 29), .inl (cy 1, 128, .inl mbf)), ((ma 68), .inl (cy 1, 210, .inl ttf))]) [0, 1, 2, 3, 4, 5, 6, 7, 8] (by decide) rfl
  refine W.widen (k := 0) (n := 0) (Nat.le_of_ble_eq_true rfl) (Nat.le_of_ble_eq_true rfl) ?_
  exact W.iret (v := (nI (8 * tt))) hx hb hr (fun t ht hW => ⟨⟨(nI (8 * tt)), (), rfl, rfl, by rw [ht]; exact hP9, hD9⟩, hS.F ht⟩) hS.2.2 dX12_actOf_68

set_option maxHeartbeats 4000000 in
set_option maxRecDepth 100000 in
theorem d_steps (l : Launch) (D : va_G) (cy : Nat → ClassId) (sz : Nat) (hm : Nat) (ma : Nat → Nat) (fv : Nat → Value) (kf : Nat → Int32) (af : Nat → Int32) (nf : Nat → Int64) (tm : Nat → Int32) (mkf : Nat → Int32) (mnf : Nat → Int64) (mbf : Nat → Int32) (ttf : Nat → Int32) (kn : Nat → Nat) (nn : Nat) (se : Nat) (tt : Nat) (bb : Nat) (ss : Nat) (nm : Int64) (st : Nat) (dp : Nat) (rv : Int32) (cd : Int32) (md : Int32) (hf : Int32) (hs : st < 120) : Met l yX12_steps (.code yX12_steps cX12_steps 1 (some .boolean) :: TB) ({ frames := 0, cells := 0, slots := 0, locals := 0 }) (va_Pc [.ref hm] (fun U => U.heap.size = sz ∧ va_P D vwCl [(hm, .inr (12, [.int cd, .ref (ma 1), (fv 2), (fv 3), .ref (ma 4), (fv 5), (fv 6), (fv 7), (fv 8), (fv 9), (fv 10), (fv 11), (fv 12), (fv 13), (fv 14), .int hf, (fv 16), .ref (ma 17), .ref (ma 18), .ref (ma 19), .ref (ma 20), .ref (ma 21), .ref (ma 22), .ref (ma 23), .ref (ma 24), .ref (ma 25), .ref (ma 26), .ref (ma 27), .ref (ma 28), .ref (ma 29), .ref (ma 30), .ref (ma 31), .ref (ma 32), .ref (ma 33), .ref (ma 34), .ref (ma 35), .ref (ma 36), .ref (ma 37), .ref (ma 38), .ref (ma 39), .ref (ma 40), .ref (ma 41), .ref (ma 42), .ref (ma 43), .ref (ma 44), .ref (ma 45), .ref (ma 46), .ref (ma 47), .ref (ma 48), (fv 49), (fv 50), (fv 51), (fv 52), (fv 53), (fv 54), (fv 55), (fv 56), (fv 57), (fv 58), .ref (ma 59), .ref (ma 60), (fv 61), (fv 62), .int (nI st), .int (nI dp), .int 0, .int rv, .ref (ma 67), .ref (ma 68), .ref (ma 69), .int md, (fv 71), .int (nI se), .ref (ma 73)]))] U.heap ∧ va_K D vwCl (TY cy) U ∧ va_D (fun _ => True) [(hm, .inr (12, [.int cd, .ref (ma 1), (fv 2), (fv 3), .ref (ma 4), (fv 5), (fv 6), (fv 7), (fv 8), (fv 9), (fv 10), (fv 11), (fv 12), (fv 13), (fv 14), .int hf, (fv 16), .ref (ma 17), .ref (ma 18), .ref (ma 19), .ref (ma 20), .ref (ma 21), .ref (ma 22), .ref (ma 23), .ref (ma 24), .ref (ma 25), .ref (ma 26), .ref (ma 27), .ref (ma 28), .ref (ma 29), .ref (ma 30), .ref (ma 31), .ref (ma 32), .ref (ma 33), .ref (ma 34), .ref (ma 35), .ref (ma 36), .ref (ma 37), .ref (ma 38), .ref (ma 39), .ref (ma 40), .ref (ma 41), .ref (ma 42), .ref (ma 43), .ref (ma 44), .ref (ma 45), .ref (ma 46), .ref (ma 47), .ref (ma 48), (fv 49), (fv 50), (fv 51), (fv 52), (fv 53), (fv 54), (fv 55), (fv 56), (fv 57), (fv 58), .ref (ma 59), .ref (ma 60), (fv 61), (fv 62), .int (nI st), .int (nI dp), .int 0, .int rv, .ref (ma 67), .ref (ma 68), .ref (ma 69), .int md, (fv 71), .int (nI se), .ref (ma 73)]))])) (va_Qi (fun (r : Int32) (u : Unit) => r = 1) (fun (u : Unit) t => va_P D vwCl [(hm, .inr (12, [.int cd, .ref (ma 1), (fv 2), (fv 3), .ref (ma 4), (fv 5), (fv 6), (fv 7), (fv 8), (fv 9), (fv 10), (fv 11), (fv 12), (fv 13), (fv 14), .int hf, (fv 16), .ref (ma 17), .ref (ma 18), .ref (ma 19), .ref (ma 20), .ref (ma 21), .ref (ma 22), .ref (ma 23), .ref (ma 24), .ref (ma 25), .ref (ma 26), .ref (ma 27), .ref (ma 28), .ref (ma 29), .ref (ma 30), .ref (ma 31), .ref (ma 32), .ref (ma 33), .ref (ma 34), .ref (ma 35), .ref (ma 36), .ref (ma 37), .ref (ma 38), .ref (ma 39), .ref (ma 40), .ref (ma 41), .ref (ma 42), .ref (ma 43), .ref (ma 44), .ref (ma 45), .ref (ma 46), .ref (ma 47), .ref (ma 48), (fv 49), (fv 50), (fv 51), (fv 52), (fv 53), (fv 54), (fv 55), (fv 56), (fv 57), (fv 58), .ref (ma 59), .ref (ma 60), (fv 61), (fv 62), .int (nI (st + 1)), .int (nI dp), .int 0, .int rv, .ref (ma 67), .ref (ma 68), .ref (ma 69), .int md, (fv 71), .int (nI se), .ref (ma 73)]))] t.heap ∧ va_D (va_A [(hm, .inr (12, [.int cd, .ref (ma 1), (fv 2), (fv 3), .ref (ma 4), (fv 5), (fv 6), (fv 7), (fv 8), (fv 9), (fv 10), (fv 11), (fv 12), (fv 13), (fv 14), .int hf, (fv 16), .ref (ma 17), .ref (ma 18), .ref (ma 19), .ref (ma 20), .ref (ma 21), .ref (ma 22), .ref (ma 23), .ref (ma 24), .ref (ma 25), .ref (ma 26), .ref (ma 27), .ref (ma 28), .ref (ma 29), .ref (ma 30), .ref (ma 31), .ref (ma 32), .ref (ma 33), .ref (ma 34), .ref (ma 35), .ref (ma 36), .ref (ma 37), .ref (ma 38), .ref (ma 39), .ref (ma 40), .ref (ma 41), .ref (ma 42), .ref (ma 43), .ref (ma 44), .ref (ma 45), .ref (ma 46), .ref (ma 47), .ref (ma 48), (fv 49), (fv 50), (fv 51), (fv 52), (fv 53), (fv 54), (fv 55), (fv 56), (fv 57), (fv 58), .ref (ma 59), .ref (ma 60), (fv 61), (fv 62), .int (nI st), .int (nI dp), .int 0, .int rv, .ref (ma 67), .ref (ma 68), .ref (ma 69), .int md, (fv 71), .int (nI se), .ref (ma 73)]))] sz) [(hm, .inr (12, [.int cd, .ref (ma 1), (fv 2), (fv 3), .ref (ma 4), (fv 5), (fv 6), (fv 7), (fv 8), (fv 9), (fv 10), (fv 11), (fv 12), (fv 13), (fv 14), .int hf, (fv 16), .ref (ma 17), .ref (ma 18), .ref (ma 19), .ref (ma 20), .ref (ma 21), .ref (ma 22), .ref (ma 23), .ref (ma 24), .ref (ma 25), .ref (ma 26), .ref (ma 27), .ref (ma 28), .ref (ma 29), .ref (ma 30), .ref (ma 31), .ref (ma 32), .ref (ma 33), .ref (ma 34), .ref (ma 35), .ref (ma 36), .ref (ma 37), .ref (ma 38), .ref (ma 39), .ref (ma 40), .ref (ma 41), .ref (ma 42), .ref (ma 43), .ref (ma 44), .ref (ma 45), .ref (ma 46), .ref (ma 47), .ref (ma 48), (fv 49), (fv 50), (fv 51), (fv 52), (fv 53), (fv 54), (fv 55), (fv 56), (fv 57), (fv 58), .ref (ma 59), .ref (ma 60), (fv 61), (fv 62), .int (nI (st + 1)), .int (nI dp), .int 0, .int rv, .ref (ma 67), .ref (ma 68), .ref (ma 69), .int md, (fv 71), .int (nI se), .ref (ma 73)]))]) (va_A [(hm, .inr (12, [.int cd, .ref (ma 1), (fv 2), (fv 3), .ref (ma 4), (fv 5), (fv 6), (fv 7), (fv 8), (fv 9), (fv 10), (fv 11), (fv 12), (fv 13), (fv 14), .int hf, (fv 16), .ref (ma 17), .ref (ma 18), .ref (ma 19), .ref (ma 20), .ref (ma 21), .ref (ma 22), .ref (ma 23), .ref (ma 24), .ref (ma 25), .ref (ma 26), .ref (ma 27), .ref (ma 28), .ref (ma 29), .ref (ma 30), .ref (ma 31), .ref (ma 32), .ref (ma 33), .ref (ma 34), .ref (ma 35), .ref (ma 36), .ref (ma 37), .ref (ma 38), .ref (ma 39), .ref (ma 40), .ref (ma 41), .ref (ma 42), .ref (ma 43), .ref (ma 44), .ref (ma 45), .ref (ma 46), .ref (ma 47), .ref (ma 48), (fv 49), (fv 50), (fv 51), (fv 52), (fv 53), (fv 54), (fv 55), (fv 56), (fv 57), (fv 58), .ref (ma 59), .ref (ma 60), (fv 61), (fv 62), .int (nI st), .int (nI dp), .int 0, .int rv, .ref (ma 67), .ref (ma 68), .ref (ma 69), .int md, (fv 71), .int (nI se), .ref (ma 73)]))] sz)) 0 0 (va_A [(hm, .inr (12, [.int cd, .ref (ma 1), (fv 2), (fv 3), .ref (ma 4), (fv 5), (fv 6), (fv 7), (fv 8), (fv 9), (fv 10), (fv 11), (fv 12), (fv 13), (fv 14), .int hf, (fv 16), .ref (ma 17), .ref (ma 18), .ref (ma 19), .ref (ma 20), .ref (ma 21), .ref (ma 22), .ref (ma 23), .ref (ma 24), .ref (ma 25), .ref (ma 26), .ref (ma 27), .ref (ma 28), .ref (ma 29), .ref (ma 30), .ref (ma 31), .ref (ma 32), .ref (ma 33), .ref (ma 34), .ref (ma 35), .ref (ma 36), .ref (ma 37), .ref (ma 38), .ref (ma 39), .ref (ma 40), .ref (ma 41), .ref (ma 42), .ref (ma 43), .ref (ma 44), .ref (ma 45), .ref (ma 46), .ref (ma 47), .ref (ma 48), (fv 49), (fv 50), (fv 51), (fv 52), (fv 53), (fv 54), (fv 55), (fv 56), (fv 57), (fv 58), .ref (ma 59), .ref (ma 60), (fv 61), (fv 62), .int (nI st), .int (nI dp), .int 0, .int rv, .ref (ma 67), .ref (ma 68), .ref (ma 69), .int md, (fv 71), .int (nI se), .ref (ma 73)]))] sz) := by
  refine Met.ofW (cc := cX12_steps) (maxL := 1) (ret := (some .boolean)) (by decide) rfl ?_
  intro p e s m args below meth c s₁ B hml hv
  obtain ⟨rfl, hsz, hP, hK, hD0⟩ := hv
  have hx := B.exec
  have hb := B.bytes
  have hr := B.returns
  have hts := atoms_spec (ws := .code yX12_steps cX12_steps 1 (some .boolean) :: TB) B.pre
  have hT : ∀ w ∈ TB, w.before _ s = true := fun w h => hts w (List.mem_cons_of_mem _ h)
  have hown : s.vm.findClass "MakerStartsModel" = some m.cls := findClass_of_methodNamed B.named
  have hlocks := B.notSynchronized
  subst hsz
  have hD := hD0.self (sz := s.heap.size)
  generalize hAe : va_A [(hm, .inr (12, [.int cd, .ref (ma 1), (fv 2), (fv 3), .ref (ma 4), (fv 5), (fv 6), (fv 7), (fv 8), (fv 9), (fv 10), (fv 11), (fv 12), (fv 13), (fv 14), .int hf, (fv 16), .ref (ma 17), .ref (ma 18), .ref (ma 19), .ref (ma 20), .ref (ma 21), .ref (ma 22), .ref (ma 23), .ref (ma 24), .ref (ma 25), .ref (ma 26), .ref (ma 27), .ref (ma 28), .ref (ma 29), .ref (ma 30), .ref (ma 31), .ref (ma 32), .ref (ma 33), .ref (ma 34), .ref (ma 35), .ref (ma 36), .ref (ma 37), .ref (ma 38), .ref (ma 39), .ref (ma 40), .ref (ma 41), .ref (ma 42), .ref (ma 43), .ref (ma 44), .ref (ma 45), .ref (ma 46), .ref (ma 47), .ref (ma 48), (fv 49), (fv 50), (fv 51), (fv 52), (fv 53), (fv 54), (fv 55), (fv 56), (fv 57), (fv 58), .ref (ma 59), .ref (ma 60), (fv 61), (fv 62), .int (nI st), .int (nI dp), .int 0, .int rv, .ref (ma 67), .ref (ma 68), .ref (ma 69), .int md, (fv 71), .int (nI se), .ref (ma 73)]))] s.heap.size = A at hD  ⊢
  have hA : ∀ q : Nat, s.heap.size ≤ q → A q := fun q h => by rw [← hAe]; exact Or.inr h
  have hS : va_S A s.heap s.heap [] := va_S.rf
  have hP : va_P D vwCl [(hm, .inr (12, [.int cd, .ref (ma 1), (fv 2), (fv 3), .ref (ma 4), (fv 5), (fv 6), (fv 7), (fv 8), (fv 9), (fv 10), (fv 11), (fv 12), (fv 13), (fv 14), .int hf, (fv 16), .ref (ma 17), .ref (ma 18), .ref (ma 19), .ref (ma 20), .ref (ma 21), .ref (ma 22), .ref (ma 23), .ref (ma 24), .ref (ma 25), .ref (ma 26), .ref (ma 27), .ref (ma 28), .ref (ma 29), .ref (ma 30), .ref (ma 31), .ref (ma 32), .ref (ma 33), .ref (ma 34), .ref (ma 35), .ref (ma 36), .ref (ma 37), .ref (ma 38), .ref (ma 39), .ref (ma 40), .ref (ma 41), .ref (ma 42), .ref (ma 43), .ref (ma 44), .ref (ma 45), .ref (ma 46), .ref (ma 47), .ref (ma 48), (fv 49), (fv 50), (fv 51), (fv 52), (fv 53), (fv 54), (fv 55), (fv 56), (fv 57), (fv 58), .ref (ma 59), .ref (ma 60), (fv 61), (fv 62), .int (nI st), .int (nI dp), .int 0, .int rv, .ref (ma 67), .ref (ma 68), .ref (ma 69), .int md, (fv 71), .int (nI se), .ref (ma 73)]))] s.heap := hP
  have hl := lv_entry ([.ref hm]) (n := 1) (Nat.le_of_ble_eq_true rfl)
  rw [lg_entry_eq]
  generalize (lg_sl ([.ref hm]) ++ List.replicate (1 - (lg_sl ([.ref hm])).length) Slot.unset).toArray = ls at hl ⊢
  have hl : lv_has ls 1 [(0, .ref hm)] := hl
  refine lv_aload_n hx hb dX12_steps_0 rfl (lv_at hl 0 rfl) ?_
  refine va_get (D := D) (ci := 12) (v := .int (nI st)) (C := RX12) (T := TX12) (N := 74) hx hb hT i_TX12 hown hK hP 0 rfl rfl 63 (by decide) (hT _ t_1778) (fun _ h9 => h9) rfl dX12_steps_1 ?_
  refine lv_bipush (v := 120) hx hb dX12_steps_4 (by decide) ?_
  refine lv_icmp_ne (tgt := 17) hx hb dX12_steps_6 (by decide) (fun _ => ?_) (fun c9 => absurd c9 (fun h9 => absurd ((nI_eq (a := st) (b := 120) (by omega) (by decide)).mp h9) (by omega)))
  refine lv_aload_n hx hb dX12_steps_17 rfl (lv_at hl 0 rfl) ?_
  refine lv_dup hx hb dX12_steps_18 rfl ?_
  refine va_get (D := D) (ci := 12) (v := .int (nI st)) (C := RX12) (T := TX12) (N := 74) hx hb hT i_TX12 hown hK hP 0 rfl rfl 63 (by decide) (hT _ t_1778) (fun _ h9 => h9) rfl dX12_steps_19 ?_
  refine lv_iconst (v := 1) hx hb dX12_steps_22 (by decide) ?_
  refine lv_iadd hx hb dX12_steps_23 ?_
  refine lv_topi (fun z1 e2 => ?_)
  obtain rfl : z1 = (nI (st + 1)) := e2.trans (nI_1 st)
  refine va_put (D := D) (ci := 12) (v := .int (nI (st + 1))) (ty := .int) (C := RX12) (T := TX12) (N := 74) hx hb hT i_TX12 tyX12 tyX12_ok nmX12 hown hK hP hD hS 0 rfl rfl 63 (by decide) (hT _ t_1778) (fun _ h9 => h9) rfl (by decide +kernel) rfl rfl (Nat.le_of_ble_eq_true rfl) dX12_steps_24 (fun H locs hP hD hS => ?_)
  have hP : va_P D vwCl [(hm, .inr (12, [.int cd, .ref (ma 1), (fv 2), (fv 3), .ref (ma 4), (fv 5), (fv 6), (fv 7), (fv 8), (fv 9), (fv 10), (fv 11), (fv 12), (fv 13), (fv 14), .int hf, (fv 16), .ref (ma 17), .ref (ma 18), .ref (ma 19), .ref (ma 20), .ref (ma 21), .ref (ma 22), .ref (ma 23), .ref (ma 24), .ref (ma 25), .ref (ma 26), .ref (ma 27), .ref (ma 28), .ref (ma 29), .ref (ma 30), .ref (ma 31), .ref (ma 32), .ref (ma 33), .ref (ma 34), .ref (ma 35), .ref (ma 36), .ref (ma 37), .ref (ma 38), .ref (ma 39), .ref (ma 40), .ref (ma 41), .ref (ma 42), .ref (ma 43), .ref (ma 44), .ref (ma 45), .ref (ma 46), .ref (ma 47), .ref (ma 48), (fv 49), (fv 50), (fv 51), (fv 52), (fv 53), (fv 54), (fv 55), (fv 56), (fv 57), (fv 58), .ref (ma 59), .ref (ma 60), (fv 61), (fv 62), .int (nI (st + 1)), .int (nI dp), .int 0, .int rv, .ref (ma 67), .ref (ma 68), .ref (ma 69), .int md, (fv 71), .int (nI se), .ref (ma 73)]))] H := hP
  have hD : va_D A [(hm, .inr (12, [.int cd, .ref (ma 1), (fv 2), (fv 3), .ref (ma 4), (fv 5), (fv 6), (fv 7), (fv 8), (fv 9), (fv 10), (fv 11), (fv 12), (fv 13), (fv 14), .int hf, (fv 16), .ref (ma 17), .ref (ma 18), .ref (ma 19), .ref (ma 20), .ref (ma 21), .ref (ma 22), .ref (ma 23), .ref (ma 24), .ref (ma 25), .ref (ma 26), .ref (ma 27), .ref (ma 28), .ref (ma 29), .ref (ma 30), .ref (ma 31), .ref (ma 32), .ref (ma 33), .ref (ma 34), .ref (ma 35), .ref (ma 36), .ref (ma 37), .ref (ma 38), .ref (ma 39), .ref (ma 40), .ref (ma 41), .ref (ma 42), .ref (ma 43), .ref (ma 44), .ref (ma 45), .ref (ma 46), .ref (ma 47), .ref (ma 48), (fv 49), (fv 50), (fv 51), (fv 52), (fv 53), (fv 54), (fv 55), (fv 56), (fv 57), (fv 58), .ref (ma 59), .ref (ma 60), (fv 61), (fv 62), .int (nI (st + 1)), .int (nI dp), .int 0, .int rv, .ref (ma 67), .ref (ma 68), .ref (ma 69), .int md, (fv 71), .int (nI se), .ref (ma 73)]))] := hD
  refine lv_iconst (v := 1) hx hb dX12_steps_27 (by decide) ?_
  have hP9 := hP.sub (ws' := [(hm, .inr (12, [.int cd, .ref (ma 1), (fv 2), (fv 3), .ref (ma 4), (fv 5), (fv 6), (fv 7), (fv 8), (fv 9), (fv 10), (fv 11), (fv 12), (fv 13), (fv 14), .int hf, (fv 16), .ref (ma 17), .ref (ma 18), .ref (ma 19), .ref (ma 20), .ref (ma 21), .ref (ma 22), .ref (ma 23), .ref (ma 24), .ref (ma 25), .ref (ma 26), .ref (ma 27), .ref (ma 28), .ref (ma 29), .ref (ma 30), .ref (ma 31), .ref (ma 32), .ref (ma 33), .ref (ma 34), .ref (ma 35), .ref (ma 36), .ref (ma 37), .ref (ma 38), .ref (ma 39), .ref (ma 40), .ref (ma 41), .ref (ma 42), .ref (ma 43), .ref (ma 44), .ref (ma 45), .ref (ma 46), .ref (ma 47), .ref (ma 48), (fv 49), (fv 50), (fv 51), (fv 52), (fv 53), (fv 54), (fv 55), (fv 56), (fv 57), (fv 58), .ref (ma 59), .ref (ma 60), (fv 61), (fv 62), .int (nI (st + 1)), .int (nI dp), .int 0, .int rv, .ref (ma 67), .ref (ma 68), .ref (ma 69), .int md, (fv 71), .int (nI se), .ref (ma 73)]))]) [0] rfl
  have hD9 := hD.sub (ws' := [(hm, .inr (12, [.int cd, .ref (ma 1), (fv 2), (fv 3), .ref (ma 4), (fv 5), (fv 6), (fv 7), (fv 8), (fv 9), (fv 10), (fv 11), (fv 12), (fv 13), (fv 14), .int hf, (fv 16), .ref (ma 17), .ref (ma 18), .ref (ma 19), .ref (ma 20), .ref (ma 21), .ref (ma 22), .ref (ma 23), .ref (ma 24), .ref (ma 25), .ref (ma 26), .ref (ma 27), .ref (ma 28), .ref (ma 29), .ref (ma 30), .ref (ma 31), .ref (ma 32), .ref (ma 33), .ref (ma 34), .ref (ma 35), .ref (ma 36), .ref (ma 37), .ref (ma 38), .ref (ma 39), .ref (ma 40), .ref (ma 41), .ref (ma 42), .ref (ma 43), .ref (ma 44), .ref (ma 45), .ref (ma 46), .ref (ma 47), .ref (ma 48), (fv 49), (fv 50), (fv 51), (fv 52), (fv 53), (fv 54), (fv 55), (fv 56), (fv 57), (fv 58), .ref (ma 59), .ref (ma 60), (fv 61), (fv 62), .int (nI (st + 1)), .int (nI dp), .int 0, .int rv, .ref (ma 67), .ref (ma 68), .ref (ma 69), .int md, (fv 71), .int (nI se), .ref (ma 73)]))]) [0] (by decide) rfl
  refine W.widen (k := 0) (n := 0) (Nat.le_of_ble_eq_true rfl) (Nat.le_of_ble_eq_true rfl) ?_
  exact W.zret (v := 1) hx hb hr rfl (fun t ht hW => ⟨⟨1, (), rfl, rfl, by rw [ht]; exact hP9, hD9⟩, hS.F ht⟩) hS.2.2 dX12_steps_28

set_option maxHeartbeats 4000000 in
set_option maxRecDepth 100000 in
theorem d_work1 (l : Launch) (D : va_G) (cy : Nat → ClassId) (sz : Nat) (hm : Nat) (ma : Nat → Nat) (fv : Nat → Value) (kf : Nat → Int32) (af : Nat → Int32) (nf : Nat → Int64) (tm : Nat → Int32) (mkf : Nat → Int32) (mnf : Nat → Int64) (mbf : Nat → Int32) (ttf : Nat → Int32) (kn : Nat → Nat) (nn : Nat) (se : Nat) (tt : Nat) (bb : Nat) (ss : Nat) (nm : Int64) (st : Nat) (dp : Nat) (rv : Int32) (cd : Int32) (md : Int32) (hf : Int32) (jj : Nat) (fr : Int32) (d : Nat) (hd : Dp kf af nf tm mkf mnf mbf ttf kn nn se tt bb ss nm) (hj : jj < nn) (hN : ∀ k, d = k + 1 → ∀ (sz : Nat), Dies l yX12_work (.code yX12_work cX12_work 5 (some .int) :: TB) k (va_Pc [.ref hm, .int (nI (kn jj)), .int fr] (fun U => U.heap.size = sz ∧ va_P D vwCl [(hm, .inr (12, [.int cd, .ref (ma 1), (fv 2), (fv 3), .ref (ma 4), (fv 5), (fv 6), (fv 7), (fv 8), (fv 9), (fv 10), (fv 11), (fv 12), (fv 13), (fv 14), .int hf, (fv 16), .ref (ma 17), .ref (ma 18), .ref (ma 19), .ref (ma 20), .ref (ma 21), .ref (ma 22), .ref (ma 23), .ref (ma 24), .ref (ma 25), .ref (ma 26), .ref (ma 27), .ref (ma 28), .ref (ma 29), .ref (ma 30), .ref (ma 31), .ref (ma 32), .ref (ma 33), .ref (ma 34), .ref (ma 35), .ref (ma 36), .ref (ma 37), .ref (ma 38), .ref (ma 39), .ref (ma 40), .ref (ma 41), .ref (ma 42), .ref (ma 43), .ref (ma 44), .ref (ma 45), .ref (ma 46), .ref (ma 47), .ref (ma 48), (fv 49), (fv 50), (fv 51), (fv 52), (fv 53), (fv 54), (fv 55), (fv 56), (fv 57), (fv 58), .ref (ma 59), .ref (ma 60), (fv 61), (fv 62), .int (nI st), .int (nI dp), .int 0, .int rv, .ref (ma 67), .ref (ma 68), .ref (ma 69), .int md, (fv 71), .int (nI se), .ref (ma 73)])), ((ma 39), .inl (cy 1, 3400, .inl kf)), ((ma 40), .inl (cy 1, 3400, .inl af)), ((ma 46), .inl (cy 2, 3400, .inr (.inl nf))), ((ma 23), .inl (cy 1, 16, .inl tm)), ((ma 24), .inl (cy 1, 128, .inl mkf)), ((ma 25), .inl (cy 2, 128, .inr (.inl mnf))), ((ma 29), .inl (cy 1, 128, .inl mbf)), ((ma 68), .inl (cy 1, 210, .inl ttf))] U.heap ∧ va_K D vwCl (TY cy) U ∧ va_D (fun _ => True) [(hm, .inr (12, [.int cd, .ref (ma 1), (fv 2), (fv 3), .ref (ma 4), (fv 5), (fv 6), (fv 7), (fv 8), (fv 9), (fv 10), (fv 11), (fv 12), (fv 13), (fv 14), .int hf, (fv 16), .ref (ma 17), .ref (ma 18), .ref (ma 19), .ref (ma 20), .ref (ma 21), .ref (ma 22), .ref (ma 23), .ref (ma 24), .ref (ma 25), .ref (ma 26), .ref (ma 27), .ref (ma 28), .ref (ma 29), .ref (ma 30), .ref (ma 31), .ref (ma 32), .ref (ma 33), .ref (ma 34), .ref (ma 35), .ref (ma 36), .ref (ma 37), .ref (ma 38), .ref (ma 39), .ref (ma 40), .ref (ma 41), .ref (ma 42), .ref (ma 43), .ref (ma 44), .ref (ma 45), .ref (ma 46), .ref (ma 47), .ref (ma 48), (fv 49), (fv 50), (fv 51), (fv 52), (fv 53), (fv 54), (fv 55), (fv 56), (fv 57), (fv 58), .ref (ma 59), .ref (ma 60), (fv 61), (fv 62), .int (nI st), .int (nI dp), .int 0, .int rv, .ref (ma 67), .ref (ma 68), .ref (ma 69), .int md, (fv 71), .int (nI se), .ref (ma 73)])), ((ma 39), .inl (cy 1, 3400, .inl kf)), ((ma 40), .inl (cy 1, 3400, .inl af)), ((ma 46), .inl (cy 2, 3400, .inr (.inl nf))), ((ma 23), .inl (cy 1, 16, .inl tm)), ((ma 24), .inl (cy 1, 128, .inl mkf)), ((ma 25), .inl (cy 2, 128, .inr (.inl mnf))), ((ma 29), .inl (cy 1, 128, .inl mbf)), ((ma 68), .inl (cy 1, 210, .inl ttf))]))) : Dies l yX12_work (.code yX12_work cX12_work 5 (some .int) :: TB) d (va_Pc [.ref hm, .int (nI (kn (jj + 1))), .int fr] (fun U => U.heap.size = sz ∧ va_P D vwCl [(hm, .inr (12, [.int cd, .ref (ma 1), (fv 2), (fv 3), .ref (ma 4), (fv 5), (fv 6), (fv 7), (fv 8), (fv 9), (fv 10), (fv 11), (fv 12), (fv 13), (fv 14), .int hf, (fv 16), .ref (ma 17), .ref (ma 18), .ref (ma 19), .ref (ma 20), .ref (ma 21), .ref (ma 22), .ref (ma 23), .ref (ma 24), .ref (ma 25), .ref (ma 26), .ref (ma 27), .ref (ma 28), .ref (ma 29), .ref (ma 30), .ref (ma 31), .ref (ma 32), .ref (ma 33), .ref (ma 34), .ref (ma 35), .ref (ma 36), .ref (ma 37), .ref (ma 38), .ref (ma 39), .ref (ma 40), .ref (ma 41), .ref (ma 42), .ref (ma 43), .ref (ma 44), .ref (ma 45), .ref (ma 46), .ref (ma 47), .ref (ma 48), (fv 49), (fv 50), (fv 51), (fv 52), (fv 53), (fv 54), (fv 55), (fv 56), (fv 57), (fv 58), .ref (ma 59), .ref (ma 60), (fv 61), (fv 62), .int (nI st), .int (nI dp), .int 0, .int rv, .ref (ma 67), .ref (ma 68), .ref (ma 69), .int md, (fv 71), .int (nI se), .ref (ma 73)])), ((ma 39), .inl (cy 1, 3400, .inl kf)), ((ma 40), .inl (cy 1, 3400, .inl af)), ((ma 46), .inl (cy 2, 3400, .inr (.inl nf))), ((ma 23), .inl (cy 1, 16, .inl tm)), ((ma 24), .inl (cy 1, 128, .inl mkf)), ((ma 25), .inl (cy 2, 128, .inr (.inl mnf))), ((ma 29), .inl (cy 1, 128, .inl mbf)), ((ma 68), .inl (cy 1, 210, .inl ttf))] U.heap ∧ va_K D vwCl (TY cy) U ∧ va_D (fun _ => True) [(hm, .inr (12, [.int cd, .ref (ma 1), (fv 2), (fv 3), .ref (ma 4), (fv 5), (fv 6), (fv 7), (fv 8), (fv 9), (fv 10), (fv 11), (fv 12), (fv 13), (fv 14), .int hf, (fv 16), .ref (ma 17), .ref (ma 18), .ref (ma 19), .ref (ma 20), .ref (ma 21), .ref (ma 22), .ref (ma 23), .ref (ma 24), .ref (ma 25), .ref (ma 26), .ref (ma 27), .ref (ma 28), .ref (ma 29), .ref (ma 30), .ref (ma 31), .ref (ma 32), .ref (ma 33), .ref (ma 34), .ref (ma 35), .ref (ma 36), .ref (ma 37), .ref (ma 38), .ref (ma 39), .ref (ma 40), .ref (ma 41), .ref (ma 42), .ref (ma 43), .ref (ma 44), .ref (ma 45), .ref (ma 46), .ref (ma 47), .ref (ma 48), (fv 49), (fv 50), (fv 51), (fv 52), (fv 53), (fv 54), (fv 55), (fv 56), (fv 57), (fv 58), .ref (ma 59), .ref (ma 60), (fv 61), (fv 62), .int (nI st), .int (nI dp), .int 0, .int rv, .ref (ma 67), .ref (ma 68), .ref (ma 69), .int md, (fv 71), .int (nI se), .ref (ma 73)])), ((ma 39), .inl (cy 1, 3400, .inl kf)), ((ma 40), .inl (cy 1, 3400, .inl af)), ((ma 46), .inl (cy 2, 3400, .inr (.inl nf))), ((ma 23), .inl (cy 1, 16, .inl tm)), ((ma 24), .inl (cy 1, 128, .inl mkf)), ((ma 25), .inl (cy 2, 128, .inr (.inl mnf))), ((ma 29), .inl (cy 1, 128, .inl mbf)), ((ma 68), .inl (cy 1, 210, .inl ttf))])) := by
  refine Dies.ofW (cc := cX12_work) (maxL := 5) (ret := (some .int)) (by decide) rfl ?_
  intro p e s m args below meth c s₁ B hml hex hmc htg hv
  obtain ⟨rfl, hsz, hP, hK, hD0⟩ := hv
  have hx := B.exec
  have hb := B.bytes
  have hr := B.returns
  have hts := atoms_spec (ws := .code yX12_work cX12_work 5 (some .int) :: TB) B.pre
  have hT : ∀ w ∈ TB, w.before _ s = true := fun w h => hts w (List.mem_cons_of_mem _ h)
  have hown : s.vm.findClass "MakerStartsModel" = some m.cls := findClass_of_methodNamed B.named
  have hlocks := B.notSynchronized
  subst hsz
  have hD := hD0.self (sz := s.heap.size)
  generalize hAe : va_A [(hm, .inr (12, [.int cd, .ref (ma 1), (fv 2), (fv 3), .ref (ma 4), (fv 5), (fv 6), (fv 7), (fv 8), (fv 9), (fv 10), (fv 11), (fv 12), (fv 13), (fv 14), .int hf, (fv 16), .ref (ma 17), .ref (ma 18), .ref (ma 19), .ref (ma 20), .ref (ma 21), .ref (ma 22), .ref (ma 23), .ref (ma 24), .ref (ma 25), .ref (ma 26), .ref (ma 27), .ref (ma 28), .ref (ma 29), .ref (ma 30), .ref (ma 31), .ref (ma 32), .ref (ma 33), .ref (ma 34), .ref (ma 35), .ref (ma 36), .ref (ma 37), .ref (ma 38), .ref (ma 39), .ref (ma 40), .ref (ma 41), .ref (ma 42), .ref (ma 43), .ref (ma 44), .ref (ma 45), .ref (ma 46), .ref (ma 47), .ref (ma 48), (fv 49), (fv 50), (fv 51), (fv 52), (fv 53), (fv 54), (fv 55), (fv 56), (fv 57), (fv 58), .ref (ma 59), .ref (ma 60), (fv 61), (fv 62), .int (nI st), .int (nI dp), .int 0, .int rv, .ref (ma 67), .ref (ma 68), .ref (ma 69), .int md, (fv 71), .int (nI se), .ref (ma 73)])), ((ma 39), .inl (cy 1, 3400, .inl kf)), ((ma 40), .inl (cy 1, 3400, .inl af)), ((ma 46), .inl (cy 2, 3400, .inr (.inl nf))), ((ma 23), .inl (cy 1, 16, .inl tm)), ((ma 24), .inl (cy 1, 128, .inl mkf)), ((ma 25), .inl (cy 2, 128, .inr (.inl mnf))), ((ma 29), .inl (cy 1, 128, .inl mbf)), ((ma 68), .inl (cy 1, 210, .inl ttf))] s.heap.size = A at hD  ⊢
  have hA : ∀ q : Nat, s.heap.size ≤ q → A q := fun q h => by rw [← hAe]; exact Or.inr h
  have hS : va_S A s.heap s.heap [] := va_S.rf
  have hP : va_P D vwCl [(hm, .inr (12, [.int cd, .ref (ma 1), (fv 2), (fv 3), .ref (ma 4), (fv 5), (fv 6), (fv 7), (fv 8), (fv 9), (fv 10), (fv 11), (fv 12), (fv 13), (fv 14), .int hf, (fv 16), .ref (ma 17), .ref (ma 18), .ref (ma 19), .ref (ma 20), .ref (ma 21), .ref (ma 22), .ref (ma 23), .ref (ma 24), .ref (ma 25), .ref (ma 26), .ref (ma 27), .ref (ma 28), .ref (ma 29), .ref (ma 30), .ref (ma 31), .ref (ma 32), .ref (ma 33), .ref (ma 34), .ref (ma 35), .ref (ma 36), .ref (ma 37), .ref (ma 38), .ref (ma 39), .ref (ma 40), .ref (ma 41), .ref (ma 42), .ref (ma 43), .ref (ma 44), .ref (ma 45), .ref (ma 46), .ref (ma 47), .ref (ma 48), (fv 49), (fv 50), (fv 51), (fv 52), (fv 53), (fv 54), (fv 55), (fv 56), (fv 57), (fv 58), .ref (ma 59), .ref (ma 60), (fv 61), (fv 62), .int (nI st), .int (nI dp), .int 0, .int rv, .ref (ma 67), .ref (ma 68), .ref (ma 69), .int md, (fv 71), .int (nI se), .ref (ma 73)])), ((ma 39), .inl (cy 1, 3400, .inl kf)), ((ma 40), .inl (cy 1, 3400, .inl af)), ((ma 46), .inl (cy 2, 3400, .inr (.inl nf))), ((ma 23), .inl (cy 1, 16, .inl tm)), ((ma 24), .inl (cy 1, 128, .inl mkf)), ((ma 25), .inl (cy 2, 128, .inr (.inl mnf))), ((ma 29), .inl (cy 1, 128, .inl mbf)), ((ma 68), .inl (cy 1, 210, .inl ttf))] s.heap := hP
  have hl := lv_entry ([.ref hm, .int (nI (kn (jj + 1))), .int fr]) (n := 5) (Nat.le_of_ble_eq_true rfl)
  rw [lg_entry_eq]
  generalize (lg_sl ([.ref hm, .int (nI (kn (jj + 1))), .int fr]) ++ List.replicate (5 - (lg_sl ([.ref hm, .int (nI (kn (jj + 1))), .int fr])).length) Slot.unset).toArray = ls at hl ⊢
  have hl : lv_has ls 5 [(0, .ref hm), (1, .int (nI (kn (jj + 1)))), (2, .int fr)] := hl
  obtain ⟨dK, dK0, dKj, dN0, dse, dtt, dt, dtm, dmk, dmn, dmb, dbb, dab, dss0, dss, dks, das⟩ := hd
  have hk1 := dK (jj + 1) hj
  refine lv_aload_n hx hb dX12_work_0 rfl (lv_at hl 0 rfl) ?_
  refine va_get (D := D) (ci := 12) (v := .int 0) (C := RX12) (T := TX12) (N := 74) hx hb hT i_TX12 hown hK hP 0 rfl rfl 65 (by decide) (hT _ t_1780) (fun _ h9 => h9) rfl dX12_work_1 ?_
  refine lv_if_eq (tgt := 9) hx hb dX12_work_4 (by decide) (fun _ => ?_) (fun c9 => absurd (by decide) c9)
  refine lv_aload_n hx hb dX12_work_9 rfl (lv_at hl 0 rfl) ?_
  refine va_get (D := D) (ci := 12) (v := .ref (ma 39)) (C := RX12) (T := TX12) (N := 74) hx hb hT i_TX12 hown hK hP 0 rfl rfl 39 (by decide) (hT _ t_1754) (fun _ h9 => h9) rfl dX12_work_10 ?_
  refine lv_iload_n hx hb dX12_work_13 rfl (lv_at hl 1 rfl) ?_
  refine va_iald hx hb hK hP 1 1 rfl rfl (vp_in_nI hk1 (by decide)) dX12_work_14 ?_
  refine lv_topi (fun z1 e2 => ?_)
  obtain rfl : z1 = 5 := e2.trans (by rw [nI_clamp (n := kn (jj + 1)) (by omega)]; exact (dKj jj hj).1)
  refine lv_tableIn (off := 117) (tgt := 132) hx hb dX12_work_15 (by decide) (by decide) (by decide) (by decide) ?_
  refine lv_aload_n hx hb dX12_work_132 rfl (lv_at hl 0 rfl) ?_
  refine lv_aload_n hx hb dX12_work_133 rfl (lv_at hl 0 rfl) ?_
  refine va_get (D := D) (ci := 12) (v := .ref (ma 40)) (C := RX12) (T := TX12) (N := 74) hx hb hT i_TX12 hown hK hP 0 rfl rfl 40 (by decide) (hT _ t_1755) (fun _ h9 => h9) rfl dX12_work_134 ?_
  refine lv_iload_n hx hb dX12_work_137 rfl (lv_at hl 1 rfl) ?_
  refine va_iald hx hb hK hP 2 1 rfl rfl (vp_in_nI hk1 (by decide)) dX12_work_138 ?_
  refine lv_topi (fun z3 e4 => ?_)
  obtain rfl : z3 = (nI (kn jj)) := e4.trans (by rw [nI_clamp (n := kn (jj + 1)) (by omega)]; exact (dKj jj hj).2)
  refine lv_iload_n hx hb dX12_work_139 rfl (lv_at hl 2 rfl) ?_
  have hPc := hP.sub (ws' := [(hm, .inr (12, [.int cd, .ref (ma 1), (fv 2), (fv 3), .ref (ma 4), (fv 5), (fv 6), (fv 7), (fv 8), (fv 9), (fv 10), (fv 11), (fv 12), (fv 13), (fv 14), .int hf, (fv 16), .ref (ma 17), .ref (ma 18), .ref (ma 19), .ref (ma 20), .ref (ma 21), .ref (ma 22), .ref (ma 23), .ref (ma 24), .ref (ma 25), .ref (ma 26), .ref (ma 27), .ref (ma 28), .ref (ma 29), .ref (ma 30), .ref (ma 31), .ref (ma 32), .ref (ma 33), .ref (ma 34), .ref (ma 35), .ref (ma 36), .ref (ma 37), .ref (ma 38), .ref (ma 39), .ref (ma 40), .ref (ma 41), .ref (ma 42), .ref (ma 43), .ref (ma 44), .ref (ma 45), .ref (ma 46), .ref (ma 47), .ref (ma 48), (fv 49), (fv 50), (fv 51), (fv 52), (fv 53), (fv 54), (fv 55), (fv 56), (fv 57), (fv 58), .ref (ma 59), .ref (ma 60), (fv 61), (fv 62), .int (nI st), .int (nI dp), .int 0, .int rv, .ref (ma 67), .ref (ma 68), .ref (ma 69), .int md, (fv 71), .int (nI se), .ref (ma 73)])), ((ma 39), .inl (cy 1, 3400, .inl kf)), ((ma 40), .inl (cy 1, 3400, .inl af)), ((ma 46), .inl (cy 2, 3400, .inr (.inl nf))), ((ma 23), .inl (cy 1, 16, .inl tm)), ((ma 24), .inl (cy 1, 128, .inl mkf)), ((ma 25), .inl (cy 2, 128, .inr (.inl mnf))), ((ma 29), .inl (cy 1, 128, .inl mbf)), ((ma 68), .inl (cy 1, 210, .inl ttf))]) [0, 1, 2, 3, 4, 5, 6, 7, 8] rfl
  have hDc := hD.sub (ws' := [(hm, .inr (12, [.int cd, .ref (ma 1), (fv 2), (fv 3), .ref (ma 4), (fv 5), (fv 6), (fv 7), (fv 8), (fv 9), (fv 10), (fv 11), (fv 12), (fv 13), (fv 14), .int hf, (fv 16), .ref (ma 17), .ref (ma 18), .ref (ma 19), .ref (ma 20), .ref (ma 21), .ref (ma 22), .ref (ma 23), .ref (ma 24), .ref (ma 25), .ref (ma 26), .ref (ma 27), .ref (ma 28), .ref (ma 29), .ref (ma 30), .ref (ma 31), .ref (ma 32), .ref (ma 33), .ref (ma 34), .ref (ma 35), .ref (ma 36), .ref (ma 37), .ref (ma 38), .ref (ma 39), .ref (ma 40), .ref (ma 41), .ref (ma 42), .ref (ma 43), .ref (ma 44), .ref (ma 45), .ref (ma 46), .ref (ma 47), .ref (ma 48), (fv 49), (fv 50), (fv 51), (fv 52), (fv 53), (fv 54), (fv 55), (fv 56), (fv 57), (fv 58), .ref (ma 59), .ref (ma 60), (fv 61), (fv 62), .int (nI st), .int (nI dp), .int 0, .int rv, .ref (ma 67), .ref (ma 68), .ref (ma 69), .int md, (fv 71), .int (nI se), .ref (ma 73)])), ((ma 39), .inl (cy 1, 3400, .inl kf)), ((ma 40), .inl (cy 1, 3400, .inl af)), ((ma 46), .inl (cy 2, 3400, .inr (.inl nf))), ((ma 23), .inl (cy 1, 16, .inl tm)), ((ma 24), .inl (cy 1, 128, .inl mkf)), ((ma 25), .inl (cy 2, 128, .inr (.inl mnf))), ((ma 29), .inl (cy 1, 128, .inl mbf)), ((ma 68), .inl (cy 1, 210, .inl ttf))]) [0, 1, 2, 3, 4, 5, 6, 7, 8] (by decide) rfl
  exact va_dieV  (As := [.int (nI (kn jj)), .int fr]) (rest := []) ⟨hx, hb, hml, hown, hT⟩ (fun k h9 => hN k h9 s.heap.size) (cwV 2 hT (gTBV t_2189 t_2191 t_125 t_153 t_2192) rfl rfl rfl (by decide +kernel) ⟨by decide, by decide⟩) ⟨fun a U g mk q => by obtain ⟨q0, q1, qP, qK, qD⟩ := q; exact ⟨q0, q1, qP, va_K.moved (u := U) (U := U.calling g mk a) (Vm.Alike.refl U.vm) qK, qD⟩, va_recv hK hP (ci := 12) (q0 := 0) rfl rfl, fun U hU hW => ⟨rfl, by rw [hU], by rw [hU]; exact hPc, va_K.moved hW.alike hK, hDc.weaken (fun _ _ _ _ => trivial)⟩⟩ hex hmc hlocks htg rfl rfl hl.1 rfl (lv_room (Nat.le_of_ble_eq_true rfl)) dX12_work_140 rfl rfl (Nat.le_of_ble_eq_true rfl) (Nat.le_of_ble_eq_true rfl)

set_option maxHeartbeats 4000000 in
set_option maxRecDepth 100000 in
theorem d_work0 (l : Launch) (D : va_G) (cy : Nat → ClassId) (sz : Nat) (hm : Nat) (ma : Nat → Nat) (fv : Nat → Value) (kf : Nat → Int32) (af : Nat → Int32) (nf : Nat → Int64) (tm : Nat → Int32) (mkf : Nat → Int32) (mnf : Nat → Int64) (mbf : Nat → Int32) (ttf : Nat → Int32) (kn : Nat → Nat) (nn : Nat) (se : Nat) (tt : Nat) (bb : Nat) (ss : Nat) (nm : Int64) (st : Nat) (dp : Nat) (rv : Int32) (cd : Int32) (md : Int32) (hf : Int32) (fr : Int32) (d : Nat) (hd : Dp kf af nf tm mkf mnf mbf ttf kn nn se tt bb ss nm) (hN : ∀ k, d = k + 1 → ∀ (sz : Nat), Dies l yX12_callAct (.code yX12_callAct cX12_callAct 5 (some .int) :: TB) k (va_Pc [.ref hm, .long nm] (fun U => U.heap.size = sz ∧ va_P D vwCl [(hm, .inr (12, [.int cd, .ref (ma 1), (fv 2), (fv 3), .ref (ma 4), (fv 5), (fv 6), (fv 7), (fv 8), (fv 9), (fv 10), (fv 11), (fv 12), (fv 13), (fv 14), .int hf, (fv 16), .ref (ma 17), .ref (ma 18), .ref (ma 19), .ref (ma 20), .ref (ma 21), .ref (ma 22), .ref (ma 23), .ref (ma 24), .ref (ma 25), .ref (ma 26), .ref (ma 27), .ref (ma 28), .ref (ma 29), .ref (ma 30), .ref (ma 31), .ref (ma 32), .ref (ma 33), .ref (ma 34), .ref (ma 35), .ref (ma 36), .ref (ma 37), .ref (ma 38), .ref (ma 39), .ref (ma 40), .ref (ma 41), .ref (ma 42), .ref (ma 43), .ref (ma 44), .ref (ma 45), .ref (ma 46), .ref (ma 47), .ref (ma 48), (fv 49), (fv 50), (fv 51), (fv 52), (fv 53), (fv 54), (fv 55), (fv 56), (fv 57), (fv 58), .ref (ma 59), .ref (ma 60), (fv 61), (fv 62), .int (nI st), .int (nI dp), .int 0, .int rv, .ref (ma 67), .ref (ma 68), .ref (ma 69), .int md, (fv 71), .int (nI se), .ref (ma 73)])), ((ma 39), .inl (cy 1, 3400, .inl kf)), ((ma 40), .inl (cy 1, 3400, .inl af)), ((ma 46), .inl (cy 2, 3400, .inr (.inl nf))), ((ma 23), .inl (cy 1, 16, .inl tm)), ((ma 24), .inl (cy 1, 128, .inl mkf)), ((ma 25), .inl (cy 2, 128, .inr (.inl mnf))), ((ma 29), .inl (cy 1, 128, .inl mbf)), ((ma 68), .inl (cy 1, 210, .inl ttf))] U.heap ∧ va_K D vwCl (TY cy) U ∧ va_D (fun _ => True) [(hm, .inr (12, [.int cd, .ref (ma 1), (fv 2), (fv 3), .ref (ma 4), (fv 5), (fv 6), (fv 7), (fv 8), (fv 9), (fv 10), (fv 11), (fv 12), (fv 13), (fv 14), .int hf, (fv 16), .ref (ma 17), .ref (ma 18), .ref (ma 19), .ref (ma 20), .ref (ma 21), .ref (ma 22), .ref (ma 23), .ref (ma 24), .ref (ma 25), .ref (ma 26), .ref (ma 27), .ref (ma 28), .ref (ma 29), .ref (ma 30), .ref (ma 31), .ref (ma 32), .ref (ma 33), .ref (ma 34), .ref (ma 35), .ref (ma 36), .ref (ma 37), .ref (ma 38), .ref (ma 39), .ref (ma 40), .ref (ma 41), .ref (ma 42), .ref (ma 43), .ref (ma 44), .ref (ma 45), .ref (ma 46), .ref (ma 47), .ref (ma 48), (fv 49), (fv 50), (fv 51), (fv 52), (fv 53), (fv 54), (fv 55), (fv 56), (fv 57), (fv 58), .ref (ma 59), .ref (ma 60), (fv 61), (fv 62), .int (nI st), .int (nI dp), .int 0, .int rv, .ref (ma 67), .ref (ma 68), .ref (ma 69), .int md, (fv 71), .int (nI se), .ref (ma 73)])), ((ma 39), .inl (cy 1, 3400, .inl kf)), ((ma 40), .inl (cy 1, 3400, .inl af)), ((ma 46), .inl (cy 2, 3400, .inr (.inl nf))), ((ma 23), .inl (cy 1, 16, .inl tm)), ((ma 24), .inl (cy 1, 128, .inl mkf)), ((ma 25), .inl (cy 2, 128, .inr (.inl mnf))), ((ma 29), .inl (cy 1, 128, .inl mbf)), ((ma 68), .inl (cy 1, 210, .inl ttf))]))) : Dies l yX12_work (.code yX12_work cX12_work 5 (some .int) :: TB) d (va_Pc [.ref hm, .int (nI (kn 0)), .int fr] (fun U => U.heap.size = sz ∧ va_P D vwCl [(hm, .inr (12, [.int cd, .ref (ma 1), (fv 2), (fv 3), .ref (ma 4), (fv 5), (fv 6), (fv 7), (fv 8), (fv 9), (fv 10), (fv 11), (fv 12), (fv 13), (fv 14), .int hf, (fv 16), .ref (ma 17), .ref (ma 18), .ref (ma 19), .ref (ma 20), .ref (ma 21), .ref (ma 22), .ref (ma 23), .ref (ma 24), .ref (ma 25), .ref (ma 26), .ref (ma 27), .ref (ma 28), .ref (ma 29), .ref (ma 30), .ref (ma 31), .ref (ma 32), .ref (ma 33), .ref (ma 34), .ref (ma 35), .ref (ma 36), .ref (ma 37), .ref (ma 38), .ref (ma 39), .ref (ma 40), .ref (ma 41), .ref (ma 42), .ref (ma 43), .ref (ma 44), .ref (ma 45), .ref (ma 46), .ref (ma 47), .ref (ma 48), (fv 49), (fv 50), (fv 51), (fv 52), (fv 53), (fv 54), (fv 55), (fv 56), (fv 57), (fv 58), .ref (ma 59), .ref (ma 60), (fv 61), (fv 62), .int (nI st), .int (nI dp), .int 0, .int rv, .ref (ma 67), .ref (ma 68), .ref (ma 69), .int md, (fv 71), .int (nI se), .ref (ma 73)])), ((ma 39), .inl (cy 1, 3400, .inl kf)), ((ma 40), .inl (cy 1, 3400, .inl af)), ((ma 46), .inl (cy 2, 3400, .inr (.inl nf))), ((ma 23), .inl (cy 1, 16, .inl tm)), ((ma 24), .inl (cy 1, 128, .inl mkf)), ((ma 25), .inl (cy 2, 128, .inr (.inl mnf))), ((ma 29), .inl (cy 1, 128, .inl mbf)), ((ma 68), .inl (cy 1, 210, .inl ttf))] U.heap ∧ va_K D vwCl (TY cy) U ∧ va_D (fun _ => True) [(hm, .inr (12, [.int cd, .ref (ma 1), (fv 2), (fv 3), .ref (ma 4), (fv 5), (fv 6), (fv 7), (fv 8), (fv 9), (fv 10), (fv 11), (fv 12), (fv 13), (fv 14), .int hf, (fv 16), .ref (ma 17), .ref (ma 18), .ref (ma 19), .ref (ma 20), .ref (ma 21), .ref (ma 22), .ref (ma 23), .ref (ma 24), .ref (ma 25), .ref (ma 26), .ref (ma 27), .ref (ma 28), .ref (ma 29), .ref (ma 30), .ref (ma 31), .ref (ma 32), .ref (ma 33), .ref (ma 34), .ref (ma 35), .ref (ma 36), .ref (ma 37), .ref (ma 38), .ref (ma 39), .ref (ma 40), .ref (ma 41), .ref (ma 42), .ref (ma 43), .ref (ma 44), .ref (ma 45), .ref (ma 46), .ref (ma 47), .ref (ma 48), (fv 49), (fv 50), (fv 51), (fv 52), (fv 53), (fv 54), (fv 55), (fv 56), (fv 57), (fv 58), .ref (ma 59), .ref (ma 60), (fv 61), (fv 62), .int (nI st), .int (nI dp), .int 0, .int rv, .ref (ma 67), .ref (ma 68), .ref (ma 69), .int md, (fv 71), .int (nI se), .ref (ma 73)])), ((ma 39), .inl (cy 1, 3400, .inl kf)), ((ma 40), .inl (cy 1, 3400, .inl af)), ((ma 46), .inl (cy 2, 3400, .inr (.inl nf))), ((ma 23), .inl (cy 1, 16, .inl tm)), ((ma 24), .inl (cy 1, 128, .inl mkf)), ((ma 25), .inl (cy 2, 128, .inr (.inl mnf))), ((ma 29), .inl (cy 1, 128, .inl mbf)), ((ma 68), .inl (cy 1, 210, .inl ttf))])) := by
  refine Dies.ofW (cc := cX12_work) (maxL := 5) (ret := (some .int)) (by decide) rfl ?_
  intro p e s m args below meth c s₁ B hml hex hmc htg hv
  obtain ⟨rfl, hsz, hP, hK, hD0⟩ := hv
  have hx := B.exec
  have hb := B.bytes
  have hr := B.returns
  have hts := atoms_spec (ws := .code yX12_work cX12_work 5 (some .int) :: TB) B.pre
  have hT : ∀ w ∈ TB, w.before _ s = true := fun w h => hts w (List.mem_cons_of_mem _ h)
  have hown : s.vm.findClass "MakerStartsModel" = some m.cls := findClass_of_methodNamed B.named
  have hlocks := B.notSynchronized
  subst hsz
  have hD := hD0.self (sz := s.heap.size)
  generalize hAe : va_A [(hm, .inr (12, [.int cd, .ref (ma 1), (fv 2), (fv 3), .ref (ma 4), (fv 5), (fv 6), (fv 7), (fv 8), (fv 9), (fv 10), (fv 11), (fv 12), (fv 13), (fv 14), .int hf, (fv 16), .ref (ma 17), .ref (ma 18), .ref (ma 19), .ref (ma 20), .ref (ma 21), .ref (ma 22), .ref (ma 23), .ref (ma 24), .ref (ma 25), .ref (ma 26), .ref (ma 27), .ref (ma 28), .ref (ma 29), .ref (ma 30), .ref (ma 31), .ref (ma 32), .ref (ma 33), .ref (ma 34), .ref (ma 35), .ref (ma 36), .ref (ma 37), .ref (ma 38), .ref (ma 39), .ref (ma 40), .ref (ma 41), .ref (ma 42), .ref (ma 43), .ref (ma 44), .ref (ma 45), .ref (ma 46), .ref (ma 47), .ref (ma 48), (fv 49), (fv 50), (fv 51), (fv 52), (fv 53), (fv 54), (fv 55), (fv 56), (fv 57), (fv 58), .ref (ma 59), .ref (ma 60), (fv 61), (fv 62), .int (nI st), .int (nI dp), .int 0, .int rv, .ref (ma 67), .ref (ma 68), .ref (ma 69), .int md, (fv 71), .int (nI se), .ref (ma 73)])), ((ma 39), .inl (cy 1, 3400, .inl kf)), ((ma 40), .inl (cy 1, 3400, .inl af)), ((ma 46), .inl (cy 2, 3400, .inr (.inl nf))), ((ma 23), .inl (cy 1, 16, .inl tm)), ((ma 24), .inl (cy 1, 128, .inl mkf)), ((ma 25), .inl (cy 2, 128, .inr (.inl mnf))), ((ma 29), .inl (cy 1, 128, .inl mbf)), ((ma 68), .inl (cy 1, 210, .inl ttf))] s.heap.size = A at hD  ⊢
  have hA : ∀ q : Nat, s.heap.size ≤ q → A q := fun q h => by rw [← hAe]; exact Or.inr h
  have hS : va_S A s.heap s.heap [] := va_S.rf
  have hP : va_P D vwCl [(hm, .inr (12, [.int cd, .ref (ma 1), (fv 2), (fv 3), .ref (ma 4), (fv 5), (fv 6), (fv 7), (fv 8), (fv 9), (fv 10), (fv 11), (fv 12), (fv 13), (fv 14), .int hf, (fv 16), .ref (ma 17), .ref (ma 18), .ref (ma 19), .ref (ma 20), .ref (ma 21), .ref (ma 22), .ref (ma 23), .ref (ma 24), .ref (ma 25), .ref (ma 26), .ref (ma 27), .ref (ma 28), .ref (ma 29), .ref (ma 30), .ref (ma 31), .ref (ma 32), .ref (ma 33), .ref (ma 34), .ref (ma 35), .ref (ma 36), .ref (ma 37), .ref (ma 38), .ref (ma 39), .ref (ma 40), .ref (ma 41), .ref (ma 42), .ref (ma 43), .ref (ma 44), .ref (ma 45), .ref (ma 46), .ref (ma 47), .ref (ma 48), (fv 49), (fv 50), (fv 51), (fv 52), (fv 53), (fv 54), (fv 55), (fv 56), (fv 57), (fv 58), .ref (ma 59), .ref (ma 60), (fv 61), (fv 62), .int (nI st), .int (nI dp), .int 0, .int rv, .ref (ma 67), .ref (ma 68), .ref (ma 69), .int md, (fv 71), .int (nI se), .ref (ma 73)])), ((ma 39), .inl (cy 1, 3400, .inl kf)), ((ma 40), .inl (cy 1, 3400, .inl af)), ((ma 46), .inl (cy 2, 3400, .inr (.inl nf))), ((ma 23), .inl (cy 1, 16, .inl tm)), ((ma 24), .inl (cy 1, 128, .inl mkf)), ((ma 25), .inl (cy 2, 128, .inr (.inl mnf))), ((ma 29), .inl (cy 1, 128, .inl mbf)), ((ma 68), .inl (cy 1, 210, .inl ttf))] s.heap := hP
  have hl := lv_entry ([.ref hm, .int (nI (kn 0)), .int fr]) (n := 5) (Nat.le_of_ble_eq_true rfl)
  rw [lg_entry_eq]
  generalize (lg_sl ([.ref hm, .int (nI (kn 0)), .int fr]) ++ List.replicate (5 - (lg_sl ([.ref hm, .int (nI (kn 0)), .int fr])).length) Slot.unset).toArray = ls at hl ⊢
  have hl : lv_has ls 5 [(0, .ref hm), (1, .int (nI (kn 0))), (2, .int fr)] := hl
  obtain ⟨dK, dK0, dKj, dN0, dse, dtt, dt, dtm, dmk, dmn, dmb, dbb, dab, dss0, dss, dks, das⟩ := hd
  have hk1 := dK 0 (Nat.zero_le nn)
  refine lv_aload_n hx hb dX12_work_0 rfl (lv_at hl 0 rfl) ?_
  refine va_get (D := D) (ci := 12) (v := .int 0) (C := RX12) (T := TX12) (N := 74) hx hb hT i_TX12 hown hK hP 0 rfl rfl 65 (by decide) (hT _ t_1780) (fun _ h9 => h9) rfl dX12_work_1 ?_
  refine lv_if_eq (tgt := 9) hx hb dX12_work_4 (by decide) (fun _ => ?_) (fun c9 => absurd (by decide) c9)
  refine lv_aload_n hx hb dX12_work_9 rfl (lv_at hl 0 rfl) ?_
  refine va_get (D := D) (ci := 12) (v := .ref (ma 39)) (C := RX12) (T := TX12) (N := 74) hx hb hT i_TX12 hown hK hP 0 rfl rfl 39 (by decide) (hT _ t_1754) (fun _ h9 => h9) rfl dX12_work_10 ?_
  refine lv_iload_n hx hb dX12_work_13 rfl (lv_at hl 1 rfl) ?_
  refine va_iald hx hb hK hP 1 1 rfl rfl (vp_in_nI hk1 (by decide)) dX12_work_14 ?_
  refine lv_topi (fun z1 e2 => ?_)
  obtain rfl : z1 = 3 := e2.trans (by rw [nI_clamp (n := kn 0) (by omega)]; exact dK0)
  refine lv_tableIn (off := 93) (tgt := 108) hx hb dX12_work_15 (by decide) (by decide) (by decide) (by decide) ?_
  refine lv_aload_n hx hb dX12_work_108 rfl (lv_at hl 0 rfl) ?_
  refine lv_aload_n hx hb dX12_work_109 rfl (lv_at hl 0 rfl) ?_
  refine va_get (D := D) (ci := 12) (v := .ref (ma 46)) (C := RX12) (T := TX12) (N := 74) hx hb hT i_TX12 hown hK hP 0 rfl rfl 46 (by decide) (hT _ t_1761) (fun _ h9 => h9) rfl dX12_work_110 ?_
  refine lv_iload_n hx hb dX12_work_113 rfl (lv_at hl 1 rfl) ?_
  refine va_lald hx hb hK hP 3 2 rfl rfl (vp_in_nI hk1 (by decide)) dX12_work_114 ?_
  refine lv_topl (fun z3 e4 => ?_)
  obtain rfl : nm = z3 := (e4.trans (by rw [nI_clamp (n := kn 0) (by omega)]; exact dN0)).symm
  have hPc := hP.sub (ws' := [(hm, .inr (12, [.int cd, .ref (ma 1), (fv 2), (fv 3), .ref (ma 4), (fv 5), (fv 6), (fv 7), (fv 8), (fv 9), (fv 10), (fv 11), (fv 12), (fv 13), (fv 14), .int hf, (fv 16), .ref (ma 17), .ref (ma 18), .ref (ma 19), .ref (ma 20), .ref (ma 21), .ref (ma 22), .ref (ma 23), .ref (ma 24), .ref (ma 25), .ref (ma 26), .ref (ma 27), .ref (ma 28), .ref (ma 29), .ref (ma 30), .ref (ma 31), .ref (ma 32), .ref (ma 33), .ref (ma 34), .ref (ma 35), .ref (ma 36), .ref (ma 37), .ref (ma 38), .ref (ma 39), .ref (ma 40), .ref (ma 41), .ref (ma 42), .ref (ma 43), .ref (ma 44), .ref (ma 45), .ref (ma 46), .ref (ma 47), .ref (ma 48), (fv 49), (fv 50), (fv 51), (fv 52), (fv 53), (fv 54), (fv 55), (fv 56), (fv 57), (fv 58), .ref (ma 59), .ref (ma 60), (fv 61), (fv 62), .int (nI st), .int (nI dp), .int 0, .int rv, .ref (ma 67), .ref (ma 68), .ref (ma 69), .int md, (fv 71), .int (nI se), .ref (ma 73)])), ((ma 39), .inl (cy 1, 3400, .inl kf)), ((ma 40), .inl (cy 1, 3400, .inl af)), ((ma 46), .inl (cy 2, 3400, .inr (.inl nf))), ((ma 23), .inl (cy 1, 16, .inl tm)), ((ma 24), .inl (cy 1, 128, .inl mkf)), ((ma 25), .inl (cy 2, 128, .inr (.inl mnf))), ((ma 29), .inl (cy 1, 128, .inl mbf)), ((ma 68), .inl (cy 1, 210, .inl ttf))]) [0, 1, 2, 3, 4, 5, 6, 7, 8] rfl
  have hDc := hD.sub (ws' := [(hm, .inr (12, [.int cd, .ref (ma 1), (fv 2), (fv 3), .ref (ma 4), (fv 5), (fv 6), (fv 7), (fv 8), (fv 9), (fv 10), (fv 11), (fv 12), (fv 13), (fv 14), .int hf, (fv 16), .ref (ma 17), .ref (ma 18), .ref (ma 19), .ref (ma 20), .ref (ma 21), .ref (ma 22), .ref (ma 23), .ref (ma 24), .ref (ma 25), .ref (ma 26), .ref (ma 27), .ref (ma 28), .ref (ma 29), .ref (ma 30), .ref (ma 31), .ref (ma 32), .ref (ma 33), .ref (ma 34), .ref (ma 35), .ref (ma 36), .ref (ma 37), .ref (ma 38), .ref (ma 39), .ref (ma 40), .ref (ma 41), .ref (ma 42), .ref (ma 43), .ref (ma 44), .ref (ma 45), .ref (ma 46), .ref (ma 47), .ref (ma 48), (fv 49), (fv 50), (fv 51), (fv 52), (fv 53), (fv 54), (fv 55), (fv 56), (fv 57), (fv 58), .ref (ma 59), .ref (ma 60), (fv 61), (fv 62), .int (nI st), .int (nI dp), .int 0, .int rv, .ref (ma 67), .ref (ma 68), .ref (ma 69), .int md, (fv 71), .int (nI se), .ref (ma 73)])), ((ma 39), .inl (cy 1, 3400, .inl kf)), ((ma 40), .inl (cy 1, 3400, .inl af)), ((ma 46), .inl (cy 2, 3400, .inr (.inl nf))), ((ma 23), .inl (cy 1, 16, .inl tm)), ((ma 24), .inl (cy 1, 128, .inl mkf)), ((ma 25), .inl (cy 2, 128, .inr (.inl mnf))), ((ma 29), .inl (cy 1, 128, .inl mbf)), ((ma 68), .inl (cy 1, 210, .inl ttf))]) [0, 1, 2, 3, 4, 5, 6, 7, 8] (by decide) rfl
  exact va_dieV  (As := [.long nm]) (rest := []) ⟨hx, hb, hml, hown, hT⟩ (fun k h9 => hN k h9 s.heap.size) (cwV 1 hT (gTBV t_2197 t_2199 t_127 t_153 t_2200) rfl rfl rfl (by decide +kernel) ⟨by decide, by decide⟩) ⟨fun a U g mk q => by obtain ⟨q0, q1, qP, qK, qD⟩ := q; exact ⟨q0, q1, qP, va_K.moved (u := U) (U := U.calling g mk a) (Vm.Alike.refl U.vm) qK, qD⟩, va_recv hK hP (ci := 12) (q0 := 0) rfl rfl, fun U hU hW => ⟨rfl, by rw [hU], by rw [hU]; exact hPc, va_K.moved hW.alike hK, hDc.weaken (fun _ _ _ _ => trivial)⟩⟩ hex hmc hlocks htg rfl rfl hl.1 rfl (lv_room (Nat.le_of_ble_eq_true rfl)) dX12_work_115 rfl rfl (Nat.le_of_ble_eq_true rfl) (Nat.le_of_ble_eq_true rfl)

set_option maxHeartbeats 4000000 in
set_option maxRecDepth 100000 in
theorem d_call1 (l : Launch) (D : va_G) (cy : Nat → ClassId) (sz : Nat) (hm : Nat) (ma : Nat → Nat) (fv : Nat → Value) (kf : Nat → Int32) (af : Nat → Int32) (nf : Nat → Int64) (tm : Nat → Int32) (mkf : Nat → Int32) (mnf : Nat → Int64) (mbf : Nat → Int32) (ttf : Nat → Int32) (kn : Nat → Nat) (nn : Nat) (se : Nat) (tt : Nat) (bb : Nat) (ss : Nat) (nm : Int64) (st : Nat) (dp : Nat) (rv : Int32) (cd : Int32) (md : Int32) (hf : Int32) (d : Nat) (hd : Dp kf af nf tm mkf mnf mbf ttf kn nn se tt bb ss nm) (hdp : dp < 24) (hs : st < 120) (hN : ∀ k, d = k + 1 → ∀ (sz : Nat), Dies l yX12_runBody (.code yX12_runBody cX12_runBody 5 (some .int) :: TB) k (va_Pc [.ref hm, .int (nI bb), .int (nI (dp + 1))] (fun U => U.heap.size = sz ∧ va_P D vwCl [(hm, .inr (12, [.int cd, .ref (ma 1), (fv 2), (fv 3), .ref (ma 4), (fv 5), (fv 6), (fv 7), (fv 8), (fv 9), (fv 10), (fv 11), (fv 12), (fv 13), (fv 14), .int hf, (fv 16), .ref (ma 17), .ref (ma 18), .ref (ma 19), .ref (ma 20), .ref (ma 21), .ref (ma 22), .ref (ma 23), .ref (ma 24), .ref (ma 25), .ref (ma 26), .ref (ma 27), .ref (ma 28), .ref (ma 29), .ref (ma 30), .ref (ma 31), .ref (ma 32), .ref (ma 33), .ref (ma 34), .ref (ma 35), .ref (ma 36), .ref (ma 37), .ref (ma 38), .ref (ma 39), .ref (ma 40), .ref (ma 41), .ref (ma 42), .ref (ma 43), .ref (ma 44), .ref (ma 45), .ref (ma 46), .ref (ma 47), .ref (ma 48), (fv 49), (fv 50), (fv 51), (fv 52), (fv 53), (fv 54), (fv 55), (fv 56), (fv 57), (fv 58), .ref (ma 59), .ref (ma 60), (fv 61), (fv 62), .int (nI (st + 1)), .int (nI (dp + 1)), .int 0, .int 0, .ref (ma 67), .ref (ma 68), .ref (ma 69), .int md, (fv 71), .int (nI se), .ref (ma 73)])), ((ma 39), .inl (cy 1, 3400, .inl kf)), ((ma 40), .inl (cy 1, 3400, .inl af)), ((ma 46), .inl (cy 2, 3400, .inr (.inl nf))), ((ma 23), .inl (cy 1, 16, .inl tm)), ((ma 24), .inl (cy 1, 128, .inl mkf)), ((ma 25), .inl (cy 2, 128, .inr (.inl mnf))), ((ma 29), .inl (cy 1, 128, .inl mbf)), ((ma 68), .inl (cy 1, 210, .inl ttf))] U.heap ∧ va_K D vwCl (TY cy) U ∧ va_D (fun _ => True) [(hm, .inr (12, [.int cd, .ref (ma 1), (fv 2), (fv 3), .ref (ma 4), (fv 5), (fv 6), (fv 7), (fv 8), (fv 9), (fv 10), (fv 11), (fv 12), (fv 13), (fv 14), .int hf, (fv 16), .ref (ma 17), .ref (ma 18), .ref (ma 19), .ref (ma 20), .ref (ma 21), .ref (ma 22), .ref (ma 23), .ref (ma 24), .ref (ma 25), .ref (ma 26), .ref (ma 27), .ref (ma 28), .ref (ma 29), .ref (ma 30), .ref (ma 31), .ref (ma 32), .ref (ma 33), .ref (ma 34), .ref (ma 35), .ref (ma 36), .ref (ma 37), .ref (ma 38), .ref (ma 39), .ref (ma 40), .ref (ma 41), .ref (ma 42), .ref (ma 43), .ref (ma 44), .ref (ma 45), .ref (ma 46), .ref (ma 47), .ref (ma 48), (fv 49), (fv 50), (fv 51), (fv 52), (fv 53), (fv 54), (fv 55), (fv 56), (fv 57), (fv 58), .ref (ma 59), .ref (ma 60), (fv 61), (fv 62), .int (nI (st + 1)), .int (nI (dp + 1)), .int 0, .int 0, .ref (ma 67), .ref (ma 68), .ref (ma 69), .int md, (fv 71), .int (nI se), .ref (ma 73)])), ((ma 39), .inl (cy 1, 3400, .inl kf)), ((ma 40), .inl (cy 1, 3400, .inl af)), ((ma 46), .inl (cy 2, 3400, .inr (.inl nf))), ((ma 23), .inl (cy 1, 16, .inl tm)), ((ma 24), .inl (cy 1, 128, .inl mkf)), ((ma 25), .inl (cy 2, 128, .inr (.inl mnf))), ((ma 29), .inl (cy 1, 128, .inl mbf)), ((ma 68), .inl (cy 1, 210, .inl ttf))]))) : Dies l yX12_callAct (.code yX12_callAct cX12_callAct 5 (some .int) :: TB) d (va_Pc [.ref hm, .long nm] (fun U => U.heap.size = sz ∧ va_P D vwCl [(hm, .inr (12, [.int cd, .ref (ma 1), (fv 2), (fv 3), .ref (ma 4), (fv 5), (fv 6), (fv 7), (fv 8), (fv 9), (fv 10), (fv 11), (fv 12), (fv 13), (fv 14), .int hf, (fv 16), .ref (ma 17), .ref (ma 18), .ref (ma 19), .ref (ma 20), .ref (ma 21), .ref (ma 22), .ref (ma 23), .ref (ma 24), .ref (ma 25), .ref (ma 26), .ref (ma 27), .ref (ma 28), .ref (ma 29), .ref (ma 30), .ref (ma 31), .ref (ma 32), .ref (ma 33), .ref (ma 34), .ref (ma 35), .ref (ma 36), .ref (ma 37), .ref (ma 38), .ref (ma 39), .ref (ma 40), .ref (ma 41), .ref (ma 42), .ref (ma 43), .ref (ma 44), .ref (ma 45), .ref (ma 46), .ref (ma 47), .ref (ma 48), (fv 49), (fv 50), (fv 51), (fv 52), (fv 53), (fv 54), (fv 55), (fv 56), (fv 57), (fv 58), .ref (ma 59), .ref (ma 60), (fv 61), (fv 62), .int (nI st), .int (nI dp), .int 0, .int rv, .ref (ma 67), .ref (ma 68), .ref (ma 69), .int md, (fv 71), .int (nI se), .ref (ma 73)])), ((ma 39), .inl (cy 1, 3400, .inl kf)), ((ma 40), .inl (cy 1, 3400, .inl af)), ((ma 46), .inl (cy 2, 3400, .inr (.inl nf))), ((ma 23), .inl (cy 1, 16, .inl tm)), ((ma 24), .inl (cy 1, 128, .inl mkf)), ((ma 25), .inl (cy 2, 128, .inr (.inl mnf))), ((ma 29), .inl (cy 1, 128, .inl mbf)), ((ma 68), .inl (cy 1, 210, .inl ttf))] U.heap ∧ va_K D vwCl (TY cy) U ∧ va_D (fun _ => True) [(hm, .inr (12, [.int cd, .ref (ma 1), (fv 2), (fv 3), .ref (ma 4), (fv 5), (fv 6), (fv 7), (fv 8), (fv 9), (fv 10), (fv 11), (fv 12), (fv 13), (fv 14), .int hf, (fv 16), .ref (ma 17), .ref (ma 18), .ref (ma 19), .ref (ma 20), .ref (ma 21), .ref (ma 22), .ref (ma 23), .ref (ma 24), .ref (ma 25), .ref (ma 26), .ref (ma 27), .ref (ma 28), .ref (ma 29), .ref (ma 30), .ref (ma 31), .ref (ma 32), .ref (ma 33), .ref (ma 34), .ref (ma 35), .ref (ma 36), .ref (ma 37), .ref (ma 38), .ref (ma 39), .ref (ma 40), .ref (ma 41), .ref (ma 42), .ref (ma 43), .ref (ma 44), .ref (ma 45), .ref (ma 46), .ref (ma 47), .ref (ma 48), (fv 49), (fv 50), (fv 51), (fv 52), (fv 53), (fv 54), (fv 55), (fv 56), (fv 57), (fv 58), .ref (ma 59), .ref (ma 60), (fv 61), (fv 62), .int (nI st), .int (nI dp), .int 0, .int rv, .ref (ma 67), .ref (ma 68), .ref (ma 69), .int md, (fv 71), .int (nI se), .ref (ma 73)])), ((ma 39), .inl (cy 1, 3400, .inl kf)), ((ma 40), .inl (cy 1, 3400, .inl af)), ((ma 46), .inl (cy 2, 3400, .inr (.inl nf))), ((ma 23), .inl (cy 1, 16, .inl tm)), ((ma 24), .inl (cy 1, 128, .inl mkf)), ((ma 25), .inl (cy 2, 128, .inr (.inl mnf))), ((ma 29), .inl (cy 1, 128, .inl mbf)), ((ma 68), .inl (cy 1, 210, .inl ttf))])) := by
  refine Dies.ofW (cc := cX12_callAct) (maxL := 5) (ret := (some .int)) (by decide) rfl ?_
  intro p e s m args below meth c s₁ B hml hex hmc htg hv
  obtain ⟨rfl, hsz, hP, hK, hD0⟩ := hv
  have hx := B.exec
  have hb := B.bytes
  have hr := B.returns
  have hts := atoms_spec (ws := .code yX12_callAct cX12_callAct 5 (some .int) :: TB) B.pre
  have hT : ∀ w ∈ TB, w.before _ s = true := fun w h => hts w (List.mem_cons_of_mem _ h)
  have hown : s.vm.findClass "MakerStartsModel" = some m.cls := findClass_of_methodNamed B.named
  have hlocks := B.notSynchronized
  subst hsz
  have hD := hD0.self (sz := s.heap.size)
  generalize hAe : va_A [(hm, .inr (12, [.int cd, .ref (ma 1), (fv 2), (fv 3), .ref (ma 4), (fv 5), (fv 6), (fv 7), (fv 8), (fv 9), (fv 10), (fv 11), (fv 12), (fv 13), (fv 14), .int hf, (fv 16), .ref (ma 17), .ref (ma 18), .ref (ma 19), .ref (ma 20), .ref (ma 21), .ref (ma 22), .ref (ma 23), .ref (ma 24), .ref (ma 25), .ref (ma 26), .ref (ma 27), .ref (ma 28), .ref (ma 29), .ref (ma 30), .ref (ma 31), .ref (ma 32), .ref (ma 33), .ref (ma 34), .ref (ma 35), .ref (ma 36), .ref (ma 37), .ref (ma 38), .ref (ma 39), .ref (ma 40), .ref (ma 41), .ref (ma 42), .ref (ma 43), .ref (ma 44), .ref (ma 45), .ref (ma 46), .ref (ma 47), .ref (ma 48), (fv 49), (fv 50), (fv 51), (fv 52), (fv 53), (fv 54), (fv 55), (fv 56), (fv 57), (fv 58), .ref (ma 59), .ref (ma 60), (fv 61), (fv 62), .int (nI st), .int (nI dp), .int 0, .int rv, .ref (ma 67), .ref (ma 68), .ref (ma 69), .int md, (fv 71), .int (nI se), .ref (ma 73)])), ((ma 39), .inl (cy 1, 3400, .inl kf)), ((ma 40), .inl (cy 1, 3400, .inl af)), ((ma 46), .inl (cy 2, 3400, .inr (.inl nf))), ((ma 23), .inl (cy 1, 16, .inl tm)), ((ma 24), .inl (cy 1, 128, .inl mkf)), ((ma 25), .inl (cy 2, 128, .inr (.inl mnf))), ((ma 29), .inl (cy 1, 128, .inl mbf)), ((ma 68), .inl (cy 1, 210, .inl ttf))] s.heap.size = A at hD  ⊢
  have hA : ∀ q : Nat, s.heap.size ≤ q → A q := fun q h => by rw [← hAe]; exact Or.inr h
  have hS : va_S A s.heap s.heap [] := va_S.rf
  have hP : va_P D vwCl [(hm, .inr (12, [.int cd, .ref (ma 1), (fv 2), (fv 3), .ref (ma 4), (fv 5), (fv 6), (fv 7), (fv 8), (fv 9), (fv 10), (fv 11), (fv 12), (fv 13), (fv 14), .int hf, (fv 16), .ref (ma 17), .ref (ma 18), .ref (ma 19), .ref (ma 20), .ref (ma 21), .ref (ma 22), .ref (ma 23), .ref (ma 24), .ref (ma 25), .ref (ma 26), .ref (ma 27), .ref (ma 28), .ref (ma 29), .ref (ma 30), .ref (ma 31), .ref (ma 32), .ref (ma 33), .ref (ma 34), .ref (ma 35), .ref (ma 36), .ref (ma 37), .ref (ma 38), .ref (ma 39), .ref (ma 40), .ref (ma 41), .ref (ma 42), .ref (ma 43), .ref (ma 44), .ref (ma 45), .ref (ma 46), .ref (ma 47), .ref (ma 48), (fv 49), (fv 50), (fv 51), (fv 52), (fv 53), (fv 54), (fv 55), (fv 56), (fv 57), (fv 58), .ref (ma 59), .ref (ma 60), (fv 61), (fv 62), .int (nI st), .int (nI dp), .int 0, .int rv, .ref (ma 67), .ref (ma 68), .ref (ma 69), .int md, (fv 71), .int (nI se), .ref (ma 73)])), ((ma 39), .inl (cy 1, 3400, .inl kf)), ((ma 40), .inl (cy 1, 3400, .inl af)), ((ma 46), .inl (cy 2, 3400, .inr (.inl nf))), ((ma 23), .inl (cy 1, 16, .inl tm)), ((ma 24), .inl (cy 1, 128, .inl mkf)), ((ma 25), .inl (cy 2, 128, .inr (.inl mnf))), ((ma 29), .inl (cy 1, 128, .inl mbf)), ((ma 68), .inl (cy 1, 210, .inl ttf))] s.heap := hP
  have hl := lv_entry ([.ref hm, .long nm]) (n := 5) (Nat.le_of_ble_eq_true rfl)
  rw [lg_entry_eq]
  generalize (lg_sl ([.ref hm, .long nm]) ++ List.replicate (5 - (lg_sl ([.ref hm, .long nm])).length) Slot.unset).toArray = ls at hl ⊢
  have hl : lv_has ls 5 [(0, .ref hm), (1, .long nm)] := hl
  have hd0 := hd
  obtain ⟨dK, dK0, dKj, dN0, dse, dtt, dt, dtm, dmk, dmn, dmb, dbb, dab, dss0, dss, dks, das⟩ := hd
  refine lv_aload_n hx hb dX12_callAct_0 rfl (lv_at hl 0 rfl) ?_
  refine lv_aload_n hx hb dX12_callAct_1 rfl (lv_at hl 0 rfl) ?_
  refine va_get (D := D) (ci := 12) (v := .ref (ma 68)) (C := RX12) (T := TX12) (N := 74) hx hb hT i_TX12 hown hK hP 0 rfl rfl 68 (by decide) (hT _ t_1783) (fun _ h9 => h9) rfl dX12_callAct_2 ?_
  refine lv_aload_n hx hb dX12_callAct_5 rfl (lv_at hl 0 rfl) ?_
  refine va_get (D := D) (ci := 12) (v := .int (nI se)) (C := RX12) (T := TX12) (N := 74) hx hb hT i_TX12 hown hK hP 0 rfl rfl 72 (by decide) (hT _ t_1787) (fun _ h9 => h9) rfl dX12_callAct_6 ?_
  refine va_iald hx hb hK hP 8 1 rfl rfl (vp_in_nI dse (by decide)) dX12_callAct_9 ?_
  refine lv_topi (fun z1 e2 => ?_)
  obtain rfl : z1 = (nI tt) := e2.trans (by rw [nI_clamp (n := se) (by omega)]; exact dtt)
  refine lv_lload_n hx hb dX12_callAct_10 rfl (lv_at hl 1 rfl) ?_
  rcases Nat.eq_zero_or_pos d with rfl | hpos
  · exact va_dieV (Pc := fun _ _ => True) (ws := .code yX12_actOf cX12_actOf 6 (some .int) :: TB) (As := [.int (nI tt), .long nm]) (rest := []) ⟨hx, hb, hml, hown, hT⟩ (fun k h9 => absurd h9 (by omega)) (cwV 2 hT (gTBV t_2082 t_2084 t_100 t_153 t_2085) rfl rfl rfl (by decide +kernel) ⟨by decide, by decide⟩) ⟨fun _ _ _ _ _ => trivial, va_recv hK hP (ci := 12) (q0 := 0) rfl rfl, fun _ _ _ => trivial⟩ hex hmc hlocks htg rfl rfl hl.1 rfl (lv_room (Nat.le_of_ble_eq_true rfl)) dX12_callAct_11 rfl rfl (Nat.le_of_ble_eq_true rfl) (Nat.le_of_ble_eq_true rfl)
  · obtain ⟨k, rfl⟩ : ∃ k, d = k + 1 := ⟨d - 1, by omega⟩
    have hPc := hP.sub (ws' := [(hm, .inr (12, [.int cd, .ref (ma 1), (fv 2), (fv 3), .ref (ma 4), (fv 5), (fv 6), (fv 7), (fv 8), (fv 9), (fv 10), (fv 11), (fv 12), (fv 13), (fv 14), .int hf, (fv 16), .ref (ma 17), .ref (ma 18), .ref (ma 19), .ref (ma 20), .ref (ma 21), .ref (ma 22), .ref (ma 23), .ref (ma 24), .ref (ma 25), .ref (ma 26), .ref (ma 27), .ref (ma 28), .ref (ma 29), .ref (ma 30), .ref (ma 31), .ref (ma 32), .ref (ma 33), .ref (ma 34), .ref (ma 35), .ref (ma 36), .ref (ma 37), .ref (ma 38), .ref (ma 39), .ref (ma 40), .ref (ma 41), .ref (ma 42), .ref (ma 43), .ref (ma 44), .ref (ma 45), .ref (ma 46), .ref (ma 47), .ref (ma 48), (fv 49), (fv 50), (fv 51), (fv 52), (fv 53), (fv 54), (fv 55), (fv 56), (fv 57), (fv 58), .ref (ma 59), .ref (ma 60), (fv 61), (fv 62), .int (nI st), .int (nI dp), .int 0, .int rv, .ref (ma 67), .ref (ma 68), .ref (ma 69), .int md, (fv 71), .int (nI se), .ref (ma 73)])), ((ma 39), .inl (cy 1, 3400, .inl kf)), ((ma 40), .inl (cy 1, 3400, .inl af)), ((ma 46), .inl (cy 2, 3400, .inr (.inl nf))), ((ma 23), .inl (cy 1, 16, .inl tm)), ((ma 24), .inl (cy 1, 128, .inl mkf)), ((ma 25), .inl (cy 2, 128, .inr (.inl mnf))), ((ma 29), .inl (cy 1, 128, .inl mbf)), ((ma 68), .inl (cy 1, 210, .inl ttf))]) [0, 1, 2, 3, 4, 5, 6, 7, 8] rfl
    have hDc := hD.sub (ws' := [(hm, .inr (12, [.int cd, .ref (ma 1), (fv 2), (fv 3), .ref (ma 4), (fv 5), (fv 6), (fv 7), (fv 8), (fv 9), (fv 10), (fv 11), (fv 12), (fv 13), (fv 14), .int hf, (fv 16), .ref (ma 17), .ref (ma 18), .ref (ma 19), .ref (ma 20), .ref (ma 21), .ref (ma 22), .ref (ma 23), .ref (ma 24), .ref (ma 25), .ref (ma 26), .ref (ma 27), .ref (ma 28), .ref (ma 29), .ref (ma 30), .ref (ma 31), .ref (ma 32), .ref (ma 33), .ref (ma 34), .ref (ma 35), .ref (ma 36), .ref (ma 37), .ref (ma 38), .ref (ma 39), .ref (ma 40), .ref (ma 41), .ref (ma 42), .ref (ma 43), .ref (ma 44), .ref (ma 45), .ref (ma 46), .ref (ma 47), .ref (ma 48), (fv 49), (fv 50), (fv 51), (fv 52), (fv 53), (fv 54), (fv 55), (fv 56), (fv 57), (fv 58), .ref (ma 59), .ref (ma 60), (fv 61), (fv 62), .int (nI st), .int (nI dp), .int 0, .int rv, .ref (ma 67), .ref (ma 68), .ref (ma 69), .int md, (fv 71), .int (nI se), .ref (ma 73)])), ((ma 39), .inl (cy 1, 3400, .inl kf)), ((ma 40), .inl (cy 1, 3400, .inl af)), ((ma 46), .inl (cy 2, 3400, .inr (.inl nf))), ((ma 23), .inl (cy 1, 16, .inl tm)), ((ma 24), .inl (cy 1, 128, .inl mkf)), ((ma 25), .inl (cy 2, 128, .inr (.inl mnf))), ((ma 29), .inl (cy 1, 128, .inl mbf)), ((ma 68), .inl (cy 1, 210, .inl ttf))]) [0, 1, 2, 3, 4, 5, 6, 7, 8] (by decide) rfl
    have hFc := va_free (wc := [(hm, .inr (12, [.int cd, .ref (ma 1), (fv 2), (fv 3), .ref (ma 4), (fv 5), (fv 6), (fv 7), (fv 8), (fv 9), (fv 10), (fv 11), (fv 12), (fv 13), (fv 14), .int hf, (fv 16), .ref (ma 17), .ref (ma 18), .ref (ma 19), .ref (ma 20), .ref (ma 21), .ref (ma 22), .ref (ma 23), .ref (ma 24), .ref (ma 25), .ref (ma 26), .ref (ma 27), .ref (ma 28), .ref (ma 29), .ref (ma 30), .ref (ma 31), .ref (ma 32), .ref (ma 33), .ref (ma 34), .ref (ma 35), .ref (ma 36), .ref (ma 37), .ref (ma 38), .ref (ma 39), .ref (ma 40), .ref (ma 41), .ref (ma 42), .ref (ma 43), .ref (ma 44), .ref (ma 45), .ref (ma 46), .ref (ma 47), .ref (ma 48), (fv 49), (fv 50), (fv 51), (fv 52), (fv 53), (fv 54), (fv 55), (fv 56), (fv 57), (fv 58), .ref (ma 59), .ref (ma 60), (fv 61), (fv 62), .int (nI st), .int (nI dp), .int 0, .int rv, .ref (ma 67), .ref (ma 68), .ref (ma 69), .int md, (fv 71), .int (nI se), .ref (ma 73)])), ((ma 39), .inl (cy 1, 3400, .inl kf)), ((ma 40), .inl (cy 1, 3400, .inl af)), ((ma 46), .inl (cy 2, 3400, .inr (.inl nf))), ((ma 23), .inl (cy 1, 16, .inl tm)), ((ma 24), .inl (cy 1, 128, .inl mkf)), ((ma 25), .inl (cy 2, 128, .inr (.inl mnf))), ((ma 29), .inl (cy 1, 128, .inl mbf)), ((ma 68), .inl (cy 1, 210, .inl ttf))]) hD hS hA [0, 1, 2, 3, 4, 5, 6, 7, 8] rfl
    refine va_calli (va_runV (As := [.int (nI tt), .long nm]) (rest := []) ⟨hx, hb, hml, hown, hT⟩ (d_actOf l D cy s.heap.size hm ma fv kf af nf tm mkf mnf mbf ttf kn nn se tt bb ss nm st dp rv cd md hf hd0) (cwV 2 hT (gTBV t_2082 t_2084 t_100 t_153 t_2085) rfl rfl rfl (by decide +kernel) ⟨Nat.le_add_left 1 k, Nat.le_trans (m := 40) (Nat.le_of_ble_eq_true rfl) (by show 40 ≤ 40 * (k + 1); omega)⟩) ⟨fun a U g mk q => by obtain ⟨q0, q1, qP, qK, qD⟩ := q; exact ⟨q0, q1, qP, va_K.moved (u := U) (U := U.calling g mk a) (Vm.Alike.refl U.vm) qK, qD⟩, va_recv hK hPc (ci := 12) (q0 := 0) rfl rfl, fun U hU hW => ⟨rfl, by rw [hU], by rw [hU]; exact hPc, va_K.moved hW.alike hK, hDc.weaken (fun _ _ _ _ => trivial)⟩⟩ rfl rfl hl.1 rfl (lv_room (Nat.le_of_ble_eq_true rfl)) dX12_callAct_11 ⟨Nat.le_of_ble_eq_true rfl, Nat.le_of_ble_eq_true rfl⟩) hS (fun q _ h => hFc q h) hFc (fun r3 u t H1 locs ht hvm w4 hB hz1 hk1 hS => ?_)
    obtain ⟨hP1, hD1⟩ := hB
    rw [ht] at hP1
    obtain ⟨hP, hD⟩ := va_join (wr := []) (w1 := [(hm, .inr (12, [.int cd, .ref (ma 1), (fv 2), (fv 3), .ref (ma 4), (fv 5), (fv 6), (fv 7), (fv 8), (fv 9), (fv 10), (fv 11), (fv 12), (fv 13), (fv 14), .int hf, (fv 16), .ref (ma 17), .ref (ma 18), .ref (ma 19), .ref (ma 20), .ref (ma 21), .ref (ma 22), .ref (ma 23), .ref (ma 24), .ref (ma 25), .ref (ma 26), .ref (ma 27), .ref (ma 28), .ref (ma 29), .ref (ma 30), .ref (ma 31), .ref (ma 32), .ref (ma 33), .ref (ma 34), .ref (ma 35), .ref (ma 36), .ref (ma 37), .ref (ma 38), .ref (ma 39), .ref (ma 40), .ref (ma 41), .ref (ma 42), .ref (ma 43), .ref (ma 44), .ref (ma 45), .ref (ma 46), .ref (ma 47), .ref (ma 48), (fv 49), (fv 50), (fv 51), (fv 52), (fv 53), (fv 54), (fv 55), (fv 56), (fv 57), (fv 58), .ref (ma 59), .ref (ma 60), (fv 61), (fv 62), .int (nI st), .int (nI dp), .int 0, .int rv, .ref (ma 67), .ref (ma 68), .ref (ma 69), .int md, (fv 71), .int (nI se), .ref (ma 73)])), ((ma 39), .inl (cy 1, 3400, .inl kf)), ((ma 40), .inl (cy 1, 3400, .inl af)), ((ma 46), .inl (cy 2, 3400, .inr (.inl nf))), ((ma 23), .inl (cy 1, 16, .inl tm)), ((ma 24), .inl (cy 1, 128, .inl mkf)), ((ma 25), .inl (cy 2, 128, .inr (.inl mnf))), ((ma 29), .inl (cy 1, 128, .inl mbf)), ((ma 68), .inl (cy 1, 210, .inl ttf))]) hP hD [0, 1, 2, 3, 4, 5, 6, 7, 8] [] rfl rfl (by decide) (by decide) hk1 hFc hP1 hD1
    generalize H1 = H at hP hS ⊢
    have hP : va_P D vwCl [(hm, .inr (12, [.int cd, .ref (ma 1), (fv 2), (fv 3), .ref (ma 4), (fv 5), (fv 6), (fv 7), (fv 8), (fv 9), (fv 10), (fv 11), (fv 12), (fv 13), (fv 14), .int hf, (fv 16), .ref (ma 17), .ref (ma 18), .ref (ma 19), .ref (ma 20), .ref (ma 21), .ref (ma 22), .ref (ma 23), .ref (ma 24), .ref (ma 25), .ref (ma 26), .ref (ma 27), .ref (ma 28), .ref (ma 29), .ref (ma 30), .ref (ma 31), .ref (ma 32), .ref (ma 33), .ref (ma 34), .ref (ma 35), .ref (ma 36), .ref (ma 37), .ref (ma 38), .ref (ma 39), .ref (ma 40), .ref (ma 41), .ref (ma 42), .ref (ma 43), .ref (ma 44), .ref (ma 45), .ref (ma 46), .ref (ma 47), .ref (ma 48), (fv 49), (fv 50), (fv 51), (fv 52), (fv 53), (fv 54), (fv 55), (fv 56), (fv 57), (fv 58), .ref (ma 59), .ref (ma 60), (fv 61), (fv 62), .int (nI st), .int (nI dp), .int 0, .int rv, .ref (ma 67), .ref (ma 68), .ref (ma 69), .int md, (fv 71), .int (nI se), .ref (ma 73)])), ((ma 39), .inl (cy 1, 3400, .inl kf)), ((ma 40), .inl (cy 1, 3400, .inl af)), ((ma 46), .inl (cy 2, 3400, .inr (.inl nf))), ((ma 23), .inl (cy 1, 16, .inl tm)), ((ma 24), .inl (cy 1, 128, .inl mkf)), ((ma 25), .inl (cy 2, 128, .inr (.inl mnf))), ((ma 29), .inl (cy 1, 128, .inl mbf)), ((ma 68), .inl (cy 1, 210, .inl ttf))] H := hP
    have hD : va_D A [(hm, .inr (12, [.int cd, .ref (ma 1), (fv 2), (fv 3), .ref (ma 4), (fv 5), (fv 6), (fv 7), (fv 8), (fv 9), (fv 10), (fv 11), (fv 12), (fv 13), (fv 14), .int hf, (fv 16), .ref (ma 17), .ref (ma 18), .ref (ma 19), .ref (ma 20), .ref (ma 21), .ref (ma 22), .ref (ma 23), .ref (ma 24), .ref (ma 25), .ref (ma 26), .ref (ma 27), .ref (ma 28), .ref (ma 29), .ref (ma 30), .ref (ma 31), .ref (ma 32), .ref (ma 33), .ref (ma 34), .ref (ma 35), .ref (ma 36), .ref (ma 37), .ref (ma 38), .ref (ma 39), .ref (ma 40), .ref (ma 41), .ref (ma 42), .ref (ma 43), .ref (ma 44), .ref (ma 45), .ref (ma 46), .ref (ma 47), .ref (ma 48), (fv 49), (fv 50), (fv 51), (fv 52), (fv 53), (fv 54), (fv 55), (fv 56), (fv 57), (fv 58), .ref (ma 59), .ref (ma 60), (fv 61), (fv 62), .int (nI st), .int (nI dp), .int 0, .int rv, .ref (ma 67), .ref (ma 68), .ref (ma 69), .int md, (fv 71), .int (nI se), .ref (ma 73)])), ((ma 39), .inl (cy 1, 3400, .inl kf)), ((ma 40), .inl (cy 1, 3400, .inl af)), ((ma 46), .inl (cy 2, 3400, .inr (.inl nf))), ((ma 23), .inl (cy 1, 16, .inl tm)), ((ma 24), .inl (cy 1, 128, .inl mkf)), ((ma 25), .inl (cy 2, 128, .inr (.inl mnf))), ((ma 29), .inl (cy 1, 128, .inl mbf)), ((ma 68), .inl (cy 1, 210, .inl ttf))] := hD
    obtain rfl : r3 = nI (8 * tt) := w4
    refine lv_istore_n (lv' := [(3, .int (nI (8 * tt))), (0, .ref hm), (1, .long nm)]) hx hb dX12_callAct_14 rfl hl (by decide) rfl (fun ls hl => ?_)
    refine lv_aload_n hx hb dX12_callAct_15 rfl (lv_at hl 1 rfl) ?_
    refine va_get (D := D) (ci := 12) (v := .int (nI dp)) (C := RX12) (T := TX12) (N := 74) hx hb hT i_TX12 hown hK hP 0 rfl rfl 64 (by decide) (hT _ t_1779) (fun _ h9 => h9) rfl dX12_callAct_16 ?_
    refine lv_bipush (v := 24) hx hb dX12_callAct_19 (by decide) ?_
    refine lv_icmp_ne (tgt := 32) hx hb dX12_callAct_21 (by decide) (fun _ => ?_) (fun c9 => absurd c9 (fun h9 => absurd ((nI_eq (a := dp) (b := 24) (by omega) (by decide)).mp h9) (by omega)))
    refine lv_aload_n hx hb dX12_callAct_32 rfl (lv_at hl 1 rfl) ?_
    have hPc := hP.sub (ws' := [(hm, .inr (12, [.int cd, .ref (ma 1), (fv 2), (fv 3), .ref (ma 4), (fv 5), (fv 6), (fv 7), (fv 8), (fv 9), (fv 10), (fv 11), (fv 12), (fv 13), (fv 14), .int hf, (fv 16), .ref (ma 17), .ref (ma 18), .ref (ma 19), .ref (ma 20), .ref (ma 21), .ref (ma 22), .ref (ma 23), .ref (ma 24), .ref (ma 25), .ref (ma 26), .ref (ma 27), .ref (ma 28), .ref (ma 29), .ref (ma 30), .ref (ma 31), .ref (ma 32), .ref (ma 33), .ref (ma 34), .ref (ma 35), .ref (ma 36), .ref (ma 37), .ref (ma 38), .ref (ma 39), .ref (ma 40), .ref (ma 41), .ref (ma 42), .ref (ma 43), .ref (ma 44), .ref (ma 45), .ref (ma 46), .ref (ma 47), .ref (ma 48), (fv 49), (fv 50), (fv 51), (fv 52), (fv 53), (fv 54), (fv 55), (fv 56), (fv 57), (fv 58), .ref (ma 59), .ref (ma 60), (fv 61), (fv 62), .int (nI st), .int (nI dp), .int 0, .int rv, .ref (ma 67), .ref (ma 68), .ref (ma 69), .int md, (fv 71), .int (nI se), .ref (ma 73)]))]) [0] rfl
    have hDc := hD.sub (ws' := [(hm, .inr (12, [.int cd, .ref (ma 1), (fv 2), (fv 3), .ref (ma 4), (fv 5), (fv 6), (fv 7), (fv 8), (fv 9), (fv 10), (fv 11), (fv 12), (fv 13), (fv 14), .int hf, (fv 16), .ref (ma 17), .ref (ma 18), .ref (ma 19), .ref (ma 20), .ref (ma 21), .ref (ma 22), .ref (ma 23), .ref (ma 24), .ref (ma 25), .ref (ma 26), .ref (ma 27), .ref (ma 28), .ref (ma 29), .ref (ma 30), .ref (ma 31), .ref (ma 32), .ref (ma 33), .ref (ma 34), .ref (ma 35), .ref (ma 36), .ref (ma 37), .ref (ma 38), .ref (ma 39), .ref (ma 40), .ref (ma 41), .ref (ma 42), .ref (ma 43), .ref (ma 44), .ref (ma 45), .ref (ma 46), .ref (ma 47), .ref (ma 48), (fv 49), (fv 50), (fv 51), (fv 52), (fv 53), (fv 54), (fv 55), (fv 56), (fv 57), (fv 58), .ref (ma 59), .ref (ma 60), (fv 61), (fv 62), .int (nI st), .int (nI dp), .int 0, .int rv, .ref (ma 67), .ref (ma 68), .ref (ma 69), .int md, (fv 71), .int (nI se), .ref (ma 73)]))]) [0] (by decide) rfl
    have hFc := va_free (wc := [(hm, .inr (12, [.int cd, .ref (ma 1), (fv 2), (fv 3), .ref (ma 4), (fv 5), (fv 6), (fv 7), (fv 8), (fv 9), (fv 10), (fv 11), (fv 12), (fv 13), (fv 14), .int hf, (fv 16), .ref (ma 17), .ref (ma 18), .ref (ma 19), .ref (ma 20), .ref (ma 21), .ref (ma 22), .ref (ma 23), .ref (ma 24), .ref (ma 25), .ref (ma 26), .ref (ma 27), .ref (ma 28), .ref (ma 29), .ref (ma 30), .ref (ma 31), .ref (ma 32), .ref (ma 33), .ref (ma 34), .ref (ma 35), .ref (ma 36), .ref (ma 37), .ref (ma 38), .ref (ma 39), .ref (ma 40), .ref (ma 41), .ref (ma 42), .ref (ma 43), .ref (ma 44), .ref (ma 45), .ref (ma 46), .ref (ma 47), .ref (ma 48), (fv 49), (fv 50), (fv 51), (fv 52), (fv 53), (fv 54), (fv 55), (fv 56), (fv 57), (fv 58), .ref (ma 59), .ref (ma 60), (fv 61), (fv 62), .int (nI st), .int (nI dp), .int 0, .int rv, .ref (ma 67), .ref (ma 68), .ref (ma 69), .int md, (fv 71), .int (nI se), .ref (ma 73)]))]) hD hS hA [0] rfl
    refine va_calli (va_runV (As := []) (rest := []) ⟨hx, hb, hml, hown, hT⟩ (d_steps l D cy H.size hm ma fv kf af nf tm mkf mnf mbf ttf kn nn se tt bb ss nm st dp rv cd md hf hs) (cwV 0 hT (gTBV t_2181 t_2183 t_123 t_153 t_2184) rfl rfl rfl (by decide +kernel) ⟨Nat.le_add_left 1 k, Nat.le_trans (m := 40) (Nat.le_of_ble_eq_true rfl) (by show 40 ≤ 40 * (k + 1); omega)⟩) ⟨fun a U g mk q => by obtain ⟨q0, q1, qP, qK, qD⟩ := q; exact ⟨q0, q1, qP, va_K.moved (u := U) (U := U.calling g mk a) (Vm.Alike.refl U.vm) qK, qD⟩, va_recv hK hPc (ci := 12) (q0 := 0) rfl rfl, fun U hU hW => ⟨rfl, by rw [hU], by rw [hU]; exact hPc, va_K.moved hW.alike hK, hDc.weaken (fun _ _ _ _ => trivial)⟩⟩ rfl rfl hl.1 rfl (lv_room (Nat.le_of_ble_eq_true rfl)) dX12_callAct_33 ⟨Nat.le_of_ble_eq_true rfl, Nat.le_of_ble_eq_true rfl⟩) hS (fun q _ h => hFc q h) hFc (fun r5 u t H1 locs ht hvm w6 hB hz1 hk1 hS => ?_)
    obtain ⟨hP1, hD1⟩ := hB
    rw [ht] at hP1
    obtain ⟨hP, hD⟩ := va_join (wr := [((ma 39), .inl (cy 1, 3400, .inl kf)), ((ma 40), .inl (cy 1, 3400, .inl af)), ((ma 46), .inl (cy 2, 3400, .inr (.inl nf))), ((ma 23), .inl (cy 1, 16, .inl tm)), ((ma 24), .inl (cy 1, 128, .inl mkf)), ((ma 25), .inl (cy 2, 128, .inr (.inl mnf))), ((ma 29), .inl (cy 1, 128, .inl mbf)), ((ma 68), .inl (cy 1, 210, .inl ttf))]) (w1 := [(hm, .inr (12, [.int cd, .ref (ma 1), (fv 2), (fv 3), .ref (ma 4), (fv 5), (fv 6), (fv 7), (fv 8), (fv 9), (fv 10), (fv 11), (fv 12), (fv 13), (fv 14), .int hf, (fv 16), .ref (ma 17), .ref (ma 18), .ref (ma 19), .ref (ma 20), .ref (ma 21), .ref (ma 22), .ref (ma 23), .ref (ma 24), .ref (ma 25), .ref (ma 26), .ref (ma 27), .ref (ma 28), .ref (ma 29), .ref (ma 30), .ref (ma 31), .ref (ma 32), .ref (ma 33), .ref (ma 34), .ref (ma 35), .ref (ma 36), .ref (ma 37), .ref (ma 38), .ref (ma 39), .ref (ma 40), .ref (ma 41), .ref (ma 42), .ref (ma 43), .ref (ma 44), .ref (ma 45), .ref (ma 46), .ref (ma 47), .ref (ma 48), (fv 49), (fv 50), (fv 51), (fv 52), (fv 53), (fv 54), (fv 55), (fv 56), (fv 57), (fv 58), .ref (ma 59), .ref (ma 60), (fv 61), (fv 62), .int (nI (st + 1)), .int (nI dp), .int 0, .int rv, .ref (ma 67), .ref (ma 68), .ref (ma 69), .int md, (fv 71), .int (nI se), .ref (ma 73)]))]) hP hD [0] [1, 2, 3, 4, 5, 6, 7, 8] rfl rfl (by decide) (by decide) hk1 hFc hP1 hD1
    generalize H1 = H at hP hS ⊢
    have hP : va_P D vwCl [((ma 39), .inl (cy 1, 3400, .inl kf)), ((ma 40), .inl (cy 1, 3400, .inl af)), ((ma 46), .inl (cy 2, 3400, .inr (.inl nf))), ((ma 23), .inl (cy 1, 16, .inl tm)), ((ma 24), .inl (cy 1, 128, .inl mkf)), ((ma 25), .inl (cy 2, 128, .inr (.inl mnf))), ((ma 29), .inl (cy 1, 128, .inl mbf)), ((ma 68), .inl (cy 1, 210, .inl ttf)), (hm, .inr (12, [.int cd, .ref (ma 1), (fv 2), (fv 3), .ref (ma 4), (fv 5), (fv 6), (fv 7), (fv 8), (fv 9), (fv 10), (fv 11), (fv 12), (fv 13), (fv 14), .int hf, (fv 16), .ref (ma 17), .ref (ma 18), .ref (ma 19), .ref (ma 20), .ref (ma 21), .ref (ma 22), .ref (ma 23), .ref (ma 24), .ref (ma 25), .ref (ma 26), .ref (ma 27), .ref (ma 28), .ref (ma 29), .ref (ma 30), .ref (ma 31), .ref (ma 32), .ref (ma 33), .ref (ma 34), .ref (ma 35), .ref (ma 36), .ref (ma 37), .ref (ma 38), .ref (ma 39), .ref (ma 40), .ref (ma 41), .ref (ma 42), .ref (ma 43), .ref (ma 44), .ref (ma 45), .ref (ma 46), .ref (ma 47), .ref (ma 48), (fv 49), (fv 50), (fv 51), (fv 52), (fv 53), (fv 54), (fv 55), (fv 56), (fv 57), (fv 58), .ref (ma 59), .ref (ma 60), (fv 61), (fv 62), .int (nI (st + 1)), .int (nI dp), .int 0, .int rv, .ref (ma 67), .ref (ma 68), .ref (ma 69), .int md, (fv 71), .int (nI se), .ref (ma 73)]))] H := hP
    have hD : va_D A [((ma 39), .inl (cy 1, 3400, .inl kf)), ((ma 40), .inl (cy 1, 3400, .inl af)), ((ma 46), .inl (cy 2, 3400, .inr (.inl nf))), ((ma 23), .inl (cy 1, 16, .inl tm)), ((ma 24), .inl (cy 1, 128, .inl mkf)), ((ma 25), .inl (cy 2, 128, .inr (.inl mnf))), ((ma 29), .inl (cy 1, 128, .inl mbf)), ((ma 68), .inl (cy 1, 210, .inl ttf)), (hm, .inr (12, [.int cd, .ref (ma 1), (fv 2), (fv 3), .ref (ma 4), (fv 5), (fv 6), (fv 7), (fv 8), (fv 9), (fv 10), (fv 11), (fv 12), (fv 13), (fv 14), .int hf, (fv 16), .ref (ma 17), .ref (ma 18), .ref (ma 19), .ref (ma 20), .ref (ma 21), .ref (ma 22), .ref (ma 23), .ref (ma 24), .ref (ma 25), .ref (ma 26), .ref (ma 27), .ref (ma 28), .ref (ma 29), .ref (ma 30), .ref (ma 31), .ref (ma 32), .ref (ma 33), .ref (ma 34), .ref (ma 35), .ref (ma 36), .ref (ma 37), .ref (ma 38), .ref (ma 39), .ref (ma 40), .ref (ma 41), .ref (ma 42), .ref (ma 43), .ref (ma 44), .ref (ma 45), .ref (ma 46), .ref (ma 47), .ref (ma 48), (fv 49), (fv 50), (fv 51), (fv 52), (fv 53), (fv 54), (fv 55), (fv 56), (fv 57), (fv 58), .ref (ma 59), .ref (ma 60), (fv 61), (fv 62), .int (nI (st + 1)), .int (nI dp), .int 0, .int rv, .ref (ma 67), .ref (ma 68), .ref (ma 69), .int md, (fv 71), .int (nI se), .ref (ma 73)]))] := hD
    obtain rfl : r5 = 1 := w6
    refine lv_if_ne (tgt := 41) hx hb dX12_callAct_36 (by decide) (fun _ => ?_) (fun c9 => absurd c9 (by decide))
    refine lv_aload_n hx hb dX12_callAct_41 rfl (lv_at hl 1 rfl) ?_
    refine lv_dup hx hb dX12_callAct_42 rfl ?_
    refine va_get (D := D) (ci := 12) (v := .int (nI dp)) (C := RX12) (T := TX12) (N := 74) hx hb hT i_TX12 hown hK hP 8 rfl rfl 64 (by decide) (hT _ t_1779) (fun _ h9 => h9) rfl dX12_callAct_43 ?_
    refine lv_iconst (v := 1) hx hb dX12_callAct_46 (by decide) ?_
    refine lv_iadd hx hb dX12_callAct_47 ?_
    refine lv_topi (fun z7 e8 => ?_)
    obtain rfl : z7 = (nI (dp + 1)) := e8.trans (nI_1 dp)
    refine va_put (D := D) (ci := 12) (v := .int (nI (dp + 1))) (ty := .int) (C := RX12) (T := TX12) (N := 74) hx hb hT i_TX12 tyX12 tyX12_ok nmX12 hown hK hP hD hS 8 rfl rfl 64 (by decide) (hT _ t_1779) (fun _ h9 => h9) rfl (by decide +kernel) rfl rfl (Nat.le_of_ble_eq_true rfl) dX12_callAct_48 (fun H locs hP hD hS => ?_)
    have hP : va_P D vwCl [((ma 39), .inl (cy 1, 3400, .inl kf)), ((ma 40), .inl (cy 1, 3400, .inl af)), ((ma 46), .inl (cy 2, 3400, .inr (.inl nf))), ((ma 23), .inl (cy 1, 16, .inl tm)), ((ma 24), .inl (cy 1, 128, .inl mkf)), ((ma 25), .inl (cy 2, 128, .inr (.inl mnf))), ((ma 29), .inl (cy 1, 128, .inl mbf)), ((ma 68), .inl (cy 1, 210, .inl ttf)), (hm, .inr (12, [.int cd, .ref (ma 1), (fv 2), (fv 3), .ref (ma 4), (fv 5), (fv 6), (fv 7), (fv 8), (fv 9), (fv 10), (fv 11), (fv 12), (fv 13), (fv 14), .int hf, (fv 16), .ref (ma 17), .ref (ma 18), .ref (ma 19), .ref (ma 20), .ref (ma 21), .ref (ma 22), .ref (ma 23), .ref (ma 24), .ref (ma 25), .ref (ma 26), .ref (ma 27), .ref (ma 28), .ref (ma 29), .ref (ma 30), .ref (ma 31), .ref (ma 32), .ref (ma 33), .ref (ma 34), .ref (ma 35), .ref (ma 36), .ref (ma 37), .ref (ma 38), .ref (ma 39), .ref (ma 40), .ref (ma 41), .ref (ma 42), .ref (ma 43), .ref (ma 44), .ref (ma 45), .ref (ma 46), .ref (ma 47), .ref (ma 48), (fv 49), (fv 50), (fv 51), (fv 52), (fv 53), (fv 54), (fv 55), (fv 56), (fv 57), (fv 58), .ref (ma 59), .ref (ma 60), (fv 61), (fv 62), .int (nI (st + 1)), .int (nI (dp + 1)), .int 0, .int rv, .ref (ma 67), .ref (ma 68), .ref (ma 69), .int md, (fv 71), .int (nI se), .ref (ma 73)]))] H := hP
    have hD : va_D A [((ma 39), .inl (cy 1, 3400, .inl kf)), ((ma 40), .inl (cy 1, 3400, .inl af)), ((ma 46), .inl (cy 2, 3400, .inr (.inl nf))), ((ma 23), .inl (cy 1, 16, .inl tm)), ((ma 24), .inl (cy 1, 128, .inl mkf)), ((ma 25), .inl (cy 2, 128, .inr (.inl mnf))), ((ma 29), .inl (cy 1, 128, .inl mbf)), ((ma 68), .inl (cy 1, 210, .inl ttf)), (hm, .inr (12, [.int cd, .ref (ma 1), (fv 2), (fv 3), .ref (ma 4), (fv 5), (fv 6), (fv 7), (fv 8), (fv 9), (fv 10), (fv 11), (fv 12), (fv 13), (fv 14), .int hf, (fv 16), .ref (ma 17), .ref (ma 18), .ref (ma 19), .ref (ma 20), .ref (ma 21), .ref (ma 22), .ref (ma 23), .ref (ma 24), .ref (ma 25), .ref (ma 26), .ref (ma 27), .ref (ma 28), .ref (ma 29), .ref (ma 30), .ref (ma 31), .ref (ma 32), .ref (ma 33), .ref (ma 34), .ref (ma 35), .ref (ma 36), .ref (ma 37), .ref (ma 38), .ref (ma 39), .ref (ma 40), .ref (ma 41), .ref (ma 42), .ref (ma 43), .ref (ma 44), .ref (ma 45), .ref (ma 46), .ref (ma 47), .ref (ma 48), (fv 49), (fv 50), (fv 51), (fv 52), (fv 53), (fv 54), (fv 55), (fv 56), (fv 57), (fv 58), .ref (ma 59), .ref (ma 60), (fv 61), (fv 62), .int (nI (st + 1)), .int (nI (dp + 1)), .int 0, .int rv, .ref (ma 67), .ref (ma 68), .ref (ma 69), .int md, (fv 71), .int (nI se), .ref (ma 73)]))] := hD
    refine lv_aload_n hx hb dX12_callAct_51 rfl (lv_at hl 1 rfl) ?_
    refine lv_iconst (v := 0) hx hb dX12_callAct_52 (by decide) ?_
    refine va_put (D := D) (ci := 12) (v := .int 0) (ty := .int) (C := RX12) (T := TX12) (N := 74) hx hb hT i_TX12 tyX12 tyX12_ok nmX12 hown hK hP hD hS 8 rfl rfl 66 (by decide) (hT _ t_1781) (fun _ h9 => h9) rfl (by decide +kernel) rfl rfl (Nat.le_of_ble_eq_true rfl) dX12_callAct_53 (fun H locs hP hD hS => ?_)
    have hP : va_P D vwCl [((ma 39), .inl (cy 1, 3400, .inl kf)), ((ma 40), .inl (cy 1, 3400, .inl af)), ((ma 46), .inl (cy 2, 3400, .inr (.inl nf))), ((ma 23), .inl (cy 1, 16, .inl tm)), ((ma 24), .inl (cy 1, 128, .inl mkf)), ((ma 25), .inl (cy 2, 128, .inr (.inl mnf))), ((ma 29), .inl (cy 1, 128, .inl mbf)), ((ma 68), .inl (cy 1, 210, .inl ttf)), (hm, .inr (12, [.int cd, .ref (ma 1), (fv 2), (fv 3), .ref (ma 4), (fv 5), (fv 6), (fv 7), (fv 8), (fv 9), (fv 10), (fv 11), (fv 12), (fv 13), (fv 14), .int hf, (fv 16), .ref (ma 17), .ref (ma 18), .ref (ma 19), .ref (ma 20), .ref (ma 21), .ref (ma 22), .ref (ma 23), .ref (ma 24), .ref (ma 25), .ref (ma 26), .ref (ma 27), .ref (ma 28), .ref (ma 29), .ref (ma 30), .ref (ma 31), .ref (ma 32), .ref (ma 33), .ref (ma 34), .ref (ma 35), .ref (ma 36), .ref (ma 37), .ref (ma 38), .ref (ma 39), .ref (ma 40), .ref (ma 41), .ref (ma 42), .ref (ma 43), .ref (ma 44), .ref (ma 45), .ref (ma 46), .ref (ma 47), .ref (ma 48), (fv 49), (fv 50), (fv 51), (fv 52), (fv 53), (fv 54), (fv 55), (fv 56), (fv 57), (fv 58), .ref (ma 59), .ref (ma 60), (fv 61), (fv 62), .int (nI (st + 1)), .int (nI (dp + 1)), .int 0, .int 0, .ref (ma 67), .ref (ma 68), .ref (ma 69), .int md, (fv 71), .int (nI se), .ref (ma 73)]))] H := hP
    have hD : va_D A [((ma 39), .inl (cy 1, 3400, .inl kf)), ((ma 40), .inl (cy 1, 3400, .inl af)), ((ma 46), .inl (cy 2, 3400, .inr (.inl nf))), ((ma 23), .inl (cy 1, 16, .inl tm)), ((ma 24), .inl (cy 1, 128, .inl mkf)), ((ma 25), .inl (cy 2, 128, .inr (.inl mnf))), ((ma 29), .inl (cy 1, 128, .inl mbf)), ((ma 68), .inl (cy 1, 210, .inl ttf)), (hm, .inr (12, [.int cd, .ref (ma 1), (fv 2), (fv 3), .ref (ma 4), (fv 5), (fv 6), (fv 7), (fv 8), (fv 9), (fv 10), (fv 11), (fv 12), (fv 13), (fv 14), .int hf, (fv 16), .ref (ma 17), .ref (ma 18), .ref (ma 19), .ref (ma 20), .ref (ma 21), .ref (ma 22), .ref (ma 23), .ref (ma 24), .ref (ma 25), .ref (ma 26), .ref (ma 27), .ref (ma 28), .ref (ma 29), .ref (ma 30), .ref (ma 31), .ref (ma 32), .ref (ma 33), .ref (ma 34), .ref (ma 35), .ref (ma 36), .ref (ma 37), .ref (ma 38), .ref (ma 39), .ref (ma 40), .ref (ma 41), .ref (ma 42), .ref (ma 43), .ref (ma 44), .ref (ma 45), .ref (ma 46), .ref (ma 47), .ref (ma 48), (fv 49), (fv 50), (fv 51), (fv 52), (fv 53), (fv 54), (fv 55), (fv 56), (fv 57), (fv 58), .ref (ma 59), .ref (ma 60), (fv 61), (fv 62), .int (nI (st + 1)), .int (nI (dp + 1)), .int 0, .int 0, .ref (ma 67), .ref (ma 68), .ref (ma 69), .int md, (fv 71), .int (nI se), .ref (ma 73)]))] := hD
    refine lv_aload_n hx hb dX12_callAct_56 rfl (lv_at hl 1 rfl) ?_
    refine lv_aload_n hx hb dX12_callAct_57 rfl (lv_at hl 1 rfl) ?_
    refine va_get (D := D) (ci := 12) (v := .ref (ma 29)) (C := RX12) (T := TX12) (N := 74) hx hb hT i_TX12 hown hK hP 8 rfl rfl 29 (by decide) (hT _ t_1744) (fun _ h9 => h9) rfl dX12_callAct_58 ?_
    refine lv_iload_n hx hb dX12_callAct_61 rfl (lv_at hl 0 rfl) ?_
    refine va_iald hx hb hK hP 6 1 rfl rfl (vp_in_nI (by omega) (by decide)) dX12_callAct_62 ?_
    refine lv_topi (fun z9 e10 => ?_)
    obtain rfl : z9 = (nI bb) := e10.trans (by rw [nI_clamp (n := 8 * tt) (by omega)]; exact dmb)
    refine lv_aload_n hx hb dX12_callAct_63 rfl (lv_at hl 1 rfl) ?_
    refine va_get (D := D) (ci := 12) (v := .int (nI (dp + 1))) (C := RX12) (T := TX12) (N := 74) hx hb hT i_TX12 hown hK hP 8 rfl rfl 64 (by decide) (hT _ t_1779) (fun _ h9 => h9) rfl dX12_callAct_64 ?_
    have hPc := hP.sub (ws' := [(hm, .inr (12, [.int cd, .ref (ma 1), (fv 2), (fv 3), .ref (ma 4), (fv 5), (fv 6), (fv 7), (fv 8), (fv 9), (fv 10), (fv 11), (fv 12), (fv 13), (fv 14), .int hf, (fv 16), .ref (ma 17), .ref (ma 18), .ref (ma 19), .ref (ma 20), .ref (ma 21), .ref (ma 22), .ref (ma 23), .ref (ma 24), .ref (ma 25), .ref (ma 26), .ref (ma 27), .ref (ma 28), .ref (ma 29), .ref (ma 30), .ref (ma 31), .ref (ma 32), .ref (ma 33), .ref (ma 34), .ref (ma 35), .ref (ma 36), .ref (ma 37), .ref (ma 38), .ref (ma 39), .ref (ma 40), .ref (ma 41), .ref (ma 42), .ref (ma 43), .ref (ma 44), .ref (ma 45), .ref (ma 46), .ref (ma 47), .ref (ma 48), (fv 49), (fv 50), (fv 51), (fv 52), (fv 53), (fv 54), (fv 55), (fv 56), (fv 57), (fv 58), .ref (ma 59), .ref (ma 60), (fv 61), (fv 62), .int (nI (st + 1)), .int (nI (dp + 1)), .int 0, .int 0, .ref (ma 67), .ref (ma 68), .ref (ma 69), .int md, (fv 71), .int (nI se), .ref (ma 73)])), ((ma 39), .inl (cy 1, 3400, .inl kf)), ((ma 40), .inl (cy 1, 3400, .inl af)), ((ma 46), .inl (cy 2, 3400, .inr (.inl nf))), ((ma 23), .inl (cy 1, 16, .inl tm)), ((ma 24), .inl (cy 1, 128, .inl mkf)), ((ma 25), .inl (cy 2, 128, .inr (.inl mnf))), ((ma 29), .inl (cy 1, 128, .inl mbf)), ((ma 68), .inl (cy 1, 210, .inl ttf))]) [8, 0, 1, 2, 3, 4, 5, 6, 7] rfl
    have hDc := hD.sub (ws' := [(hm, .inr (12, [.int cd, .ref (ma 1), (fv 2), (fv 3), .ref (ma 4), (fv 5), (fv 6), (fv 7), (fv 8), (fv 9), (fv 10), (fv 11), (fv 12), (fv 13), (fv 14), .int hf, (fv 16), .ref (ma 17), .ref (ma 18), .ref (ma 19), .ref (ma 20), .ref (ma 21), .ref (ma 22), .ref (ma 23), .ref (ma 24), .ref (ma 25), .ref (ma 26), .ref (ma 27), .ref (ma 28), .ref (ma 29), .ref (ma 30), .ref (ma 31), .ref (ma 32), .ref (ma 33), .ref (ma 34), .ref (ma 35), .ref (ma 36), .ref (ma 37), .ref (ma 38), .ref (ma 39), .ref (ma 40), .ref (ma 41), .ref (ma 42), .ref (ma 43), .ref (ma 44), .ref (ma 45), .ref (ma 46), .ref (ma 47), .ref (ma 48), (fv 49), (fv 50), (fv 51), (fv 52), (fv 53), (fv 54), (fv 55), (fv 56), (fv 57), (fv 58), .ref (ma 59), .ref (ma 60), (fv 61), (fv 62), .int (nI (st + 1)), .int (nI (dp + 1)), .int 0, .int 0, .ref (ma 67), .ref (ma 68), .ref (ma 69), .int md, (fv 71), .int (nI se), .ref (ma 73)])), ((ma 39), .inl (cy 1, 3400, .inl kf)), ((ma 40), .inl (cy 1, 3400, .inl af)), ((ma 46), .inl (cy 2, 3400, .inr (.inl nf))), ((ma 23), .inl (cy 1, 16, .inl tm)), ((ma 24), .inl (cy 1, 128, .inl mkf)), ((ma 25), .inl (cy 2, 128, .inr (.inl mnf))), ((ma 29), .inl (cy 1, 128, .inl mbf)), ((ma 68), .inl (cy 1, 210, .inl ttf))]) [8, 0, 1, 2, 3, 4, 5, 6, 7] (by decide) rfl
    exact va_dieV  (As := [.int (nI bb), .int (nI (dp + 1))]) (rest := []) ⟨hx, hb, hml, hown, hT⟩ (fun k h9 => hN k h9 H.size) (cwV 2 hT (gTBV t_2201 t_2203 t_128 t_153 t_2204) rfl rfl rfl (by decide +kernel) ⟨by decide, by decide⟩) ⟨fun a U g mk q => by obtain ⟨q0, q1, qP, qK, qD⟩ := q; exact ⟨q0, q1, qP, va_K.moved (u := U) (U := U.calling g mk a) (Vm.Alike.refl U.vm) qK, qD⟩, va_recv hK hP (ci := 12) (q0 := 8) rfl rfl, fun U hU hW => ⟨rfl, by rw [hU], by rw [hU]; exact hPc, va_K.moved hW.alike hK, hDc.weaken (fun _ _ _ _ => trivial)⟩⟩ hex hmc hlocks htg rfl rfl hl.1 rfl (lv_room (Nat.le_of_ble_eq_true rfl)) dX12_callAct_67 rfl rfl (Nat.le_of_ble_eq_true rfl) (Nat.le_of_ble_eq_true rfl)

set_option maxHeartbeats 4000000 in
set_option maxRecDepth 100000 in
theorem d_body1 (l : Launch) (D : va_G) (cy : Nat → ClassId) (sz : Nat) (hm : Nat) (ma : Nat → Nat) (fv : Nat → Value) (kf : Nat → Int32) (af : Nat → Int32) (nf : Nat → Int64) (tm : Nat → Int32) (mkf : Nat → Int32) (mnf : Nat → Int64) (mbf : Nat → Int32) (ttf : Nat → Int32) (kn : Nat → Nat) (nn : Nat) (se : Nat) (tt : Nat) (bb : Nat) (ss : Nat) (nm : Int64) (st : Nat) (dp : Nat) (rv : Int32) (cd : Int32) (md : Int32) (hf : Int32) (fr : Int32) (d : Nat) (hd : Dp kf af nf tm mkf mnf mbf ttf kn nn se tt bb ss nm) (hs : st < 120) (hN : ∀ k, d = k + 1 → ∀ (sz : Nat), Dies l yX12_run (.code yX12_run cX12_run 5 (some .int) :: TB) k (va_Pc [.ref hm, .int (nI ss), .int fr] (fun U => U.heap.size = sz ∧ va_P D vwCl [(hm, .inr (12, [.int cd, .ref (ma 1), (fv 2), (fv 3), .ref (ma 4), (fv 5), (fv 6), (fv 7), (fv 8), (fv 9), (fv 10), (fv 11), (fv 12), (fv 13), (fv 14), .int hf, (fv 16), .ref (ma 17), .ref (ma 18), .ref (ma 19), .ref (ma 20), .ref (ma 21), .ref (ma 22), .ref (ma 23), .ref (ma 24), .ref (ma 25), .ref (ma 26), .ref (ma 27), .ref (ma 28), .ref (ma 29), .ref (ma 30), .ref (ma 31), .ref (ma 32), .ref (ma 33), .ref (ma 34), .ref (ma 35), .ref (ma 36), .ref (ma 37), .ref (ma 38), .ref (ma 39), .ref (ma 40), .ref (ma 41), .ref (ma 42), .ref (ma 43), .ref (ma 44), .ref (ma 45), .ref (ma 46), .ref (ma 47), .ref (ma 48), (fv 49), (fv 50), (fv 51), (fv 52), (fv 53), (fv 54), (fv 55), (fv 56), (fv 57), (fv 58), .ref (ma 59), .ref (ma 60), (fv 61), (fv 62), .int (nI (st + 1)), .int (nI dp), .int 0, .int rv, .ref (ma 67), .ref (ma 68), .ref (ma 69), .int md, (fv 71), .int (nI se), .ref (ma 73)])), ((ma 39), .inl (cy 1, 3400, .inl kf)), ((ma 40), .inl (cy 1, 3400, .inl af)), ((ma 46), .inl (cy 2, 3400, .inr (.inl nf))), ((ma 23), .inl (cy 1, 16, .inl tm)), ((ma 24), .inl (cy 1, 128, .inl mkf)), ((ma 25), .inl (cy 2, 128, .inr (.inl mnf))), ((ma 29), .inl (cy 1, 128, .inl mbf)), ((ma 68), .inl (cy 1, 210, .inl ttf))] U.heap ∧ va_K D vwCl (TY cy) U ∧ va_D (fun _ => True) [(hm, .inr (12, [.int cd, .ref (ma 1), (fv 2), (fv 3), .ref (ma 4), (fv 5), (fv 6), (fv 7), (fv 8), (fv 9), (fv 10), (fv 11), (fv 12), (fv 13), (fv 14), .int hf, (fv 16), .ref (ma 17), .ref (ma 18), .ref (ma 19), .ref (ma 20), .ref (ma 21), .ref (ma 22), .ref (ma 23), .ref (ma 24), .ref (ma 25), .ref (ma 26), .ref (ma 27), .ref (ma 28), .ref (ma 29), .ref (ma 30), .ref (ma 31), .ref (ma 32), .ref (ma 33), .ref (ma 34), .ref (ma 35), .ref (ma 36), .ref (ma 37), .ref (ma 38), .ref (ma 39), .ref (ma 40), .ref (ma 41), .ref (ma 42), .ref (ma 43), .ref (ma 44), .ref (ma 45), .ref (ma 46), .ref (ma 47), .ref (ma 48), (fv 49), (fv 50), (fv 51), (fv 52), (fv 53), (fv 54), (fv 55), (fv 56), (fv 57), (fv 58), .ref (ma 59), .ref (ma 60), (fv 61), (fv 62), .int (nI (st + 1)), .int (nI dp), .int 0, .int rv, .ref (ma 67), .ref (ma 68), .ref (ma 69), .int md, (fv 71), .int (nI se), .ref (ma 73)])), ((ma 39), .inl (cy 1, 3400, .inl kf)), ((ma 40), .inl (cy 1, 3400, .inl af)), ((ma 46), .inl (cy 2, 3400, .inr (.inl nf))), ((ma 23), .inl (cy 1, 16, .inl tm)), ((ma 24), .inl (cy 1, 128, .inl mkf)), ((ma 25), .inl (cy 2, 128, .inr (.inl mnf))), ((ma 29), .inl (cy 1, 128, .inl mbf)), ((ma 68), .inl (cy 1, 210, .inl ttf))]))) : Dies l yX12_runBody (.code yX12_runBody cX12_runBody 5 (some .int) :: TB) d (va_Pc [.ref hm, .int (nI bb), .int fr] (fun U => U.heap.size = sz ∧ va_P D vwCl [(hm, .inr (12, [.int cd, .ref (ma 1), (fv 2), (fv 3), .ref (ma 4), (fv 5), (fv 6), (fv 7), (fv 8), (fv 9), (fv 10), (fv 11), (fv 12), (fv 13), (fv 14), .int hf, (fv 16), .ref (ma 17), .ref (ma 18), .ref (ma 19), .ref (ma 20), .ref (ma 21), .ref (ma 22), .ref (ma 23), .ref (ma 24), .ref (ma 25), .ref (ma 26), .ref (ma 27), .ref (ma 28), .ref (ma 29), .ref (ma 30), .ref (ma 31), .ref (ma 32), .ref (ma 33), .ref (ma 34), .ref (ma 35), .ref (ma 36), .ref (ma 37), .ref (ma 38), .ref (ma 39), .ref (ma 40), .ref (ma 41), .ref (ma 42), .ref (ma 43), .ref (ma 44), .ref (ma 45), .ref (ma 46), .ref (ma 47), .ref (ma 48), (fv 49), (fv 50), (fv 51), (fv 52), (fv 53), (fv 54), (fv 55), (fv 56), (fv 57), (fv 58), .ref (ma 59), .ref (ma 60), (fv 61), (fv 62), .int (nI st), .int (nI dp), .int 0, .int rv, .ref (ma 67), .ref (ma 68), .ref (ma 69), .int md, (fv 71), .int (nI se), .ref (ma 73)])), ((ma 39), .inl (cy 1, 3400, .inl kf)), ((ma 40), .inl (cy 1, 3400, .inl af)), ((ma 46), .inl (cy 2, 3400, .inr (.inl nf))), ((ma 23), .inl (cy 1, 16, .inl tm)), ((ma 24), .inl (cy 1, 128, .inl mkf)), ((ma 25), .inl (cy 2, 128, .inr (.inl mnf))), ((ma 29), .inl (cy 1, 128, .inl mbf)), ((ma 68), .inl (cy 1, 210, .inl ttf))] U.heap ∧ va_K D vwCl (TY cy) U ∧ va_D (fun _ => True) [(hm, .inr (12, [.int cd, .ref (ma 1), (fv 2), (fv 3), .ref (ma 4), (fv 5), (fv 6), (fv 7), (fv 8), (fv 9), (fv 10), (fv 11), (fv 12), (fv 13), (fv 14), .int hf, (fv 16), .ref (ma 17), .ref (ma 18), .ref (ma 19), .ref (ma 20), .ref (ma 21), .ref (ma 22), .ref (ma 23), .ref (ma 24), .ref (ma 25), .ref (ma 26), .ref (ma 27), .ref (ma 28), .ref (ma 29), .ref (ma 30), .ref (ma 31), .ref (ma 32), .ref (ma 33), .ref (ma 34), .ref (ma 35), .ref (ma 36), .ref (ma 37), .ref (ma 38), .ref (ma 39), .ref (ma 40), .ref (ma 41), .ref (ma 42), .ref (ma 43), .ref (ma 44), .ref (ma 45), .ref (ma 46), .ref (ma 47), .ref (ma 48), (fv 49), (fv 50), (fv 51), (fv 52), (fv 53), (fv 54), (fv 55), (fv 56), (fv 57), (fv 58), .ref (ma 59), .ref (ma 60), (fv 61), (fv 62), .int (nI st), .int (nI dp), .int 0, .int rv, .ref (ma 67), .ref (ma 68), .ref (ma 69), .int md, (fv 71), .int (nI se), .ref (ma 73)])), ((ma 39), .inl (cy 1, 3400, .inl kf)), ((ma 40), .inl (cy 1, 3400, .inl af)), ((ma 46), .inl (cy 2, 3400, .inr (.inl nf))), ((ma 23), .inl (cy 1, 16, .inl tm)), ((ma 24), .inl (cy 1, 128, .inl mkf)), ((ma 25), .inl (cy 2, 128, .inr (.inl mnf))), ((ma 29), .inl (cy 1, 128, .inl mbf)), ((ma 68), .inl (cy 1, 210, .inl ttf))])) := by
  refine Dies.ofW (cc := cX12_runBody) (maxL := 5) (ret := (some .int)) (by decide) rfl ?_
  intro p e s m args below meth c s₁ B hml hex hmc htg hv
  obtain ⟨rfl, hsz, hP, hK, hD0⟩ := hv
  have hx := B.exec
  have hb := B.bytes
  have hr := B.returns
  have hts := atoms_spec (ws := .code yX12_runBody cX12_runBody 5 (some .int) :: TB) B.pre
  have hT : ∀ w ∈ TB, w.before _ s = true := fun w h => hts w (List.mem_cons_of_mem _ h)
  have hown : s.vm.findClass "MakerStartsModel" = some m.cls := findClass_of_methodNamed B.named
  have hlocks := B.notSynchronized
  subst hsz
  have hD := hD0.self (sz := s.heap.size)
  generalize hAe : va_A [(hm, .inr (12, [.int cd, .ref (ma 1), (fv 2), (fv 3), .ref (ma 4), (fv 5), (fv 6), (fv 7), (fv 8), (fv 9), (fv 10), (fv 11), (fv 12), (fv 13), (fv 14), .int hf, (fv 16), .ref (ma 17), .ref (ma 18), .ref (ma 19), .ref (ma 20), .ref (ma 21), .ref (ma 22), .ref (ma 23), .ref (ma 24), .ref (ma 25), .ref (ma 26), .ref (ma 27), .ref (ma 28), .ref (ma 29), .ref (ma 30), .ref (ma 31), .ref (ma 32), .ref (ma 33), .ref (ma 34), .ref (ma 35), .ref (ma 36), .ref (ma 37), .ref (ma 38), .ref (ma 39), .ref (ma 40), .ref (ma 41), .ref (ma 42), .ref (ma 43), .ref (ma 44), .ref (ma 45), .ref (ma 46), .ref (ma 47), .ref (ma 48), (fv 49), (fv 50), (fv 51), (fv 52), (fv 53), (fv 54), (fv 55), (fv 56), (fv 57), (fv 58), .ref (ma 59), .ref (ma 60), (fv 61), (fv 62), .int (nI st), .int (nI dp), .int 0, .int rv, .ref (ma 67), .ref (ma 68), .ref (ma 69), .int md, (fv 71), .int (nI se), .ref (ma 73)])), ((ma 39), .inl (cy 1, 3400, .inl kf)), ((ma 40), .inl (cy 1, 3400, .inl af)), ((ma 46), .inl (cy 2, 3400, .inr (.inl nf))), ((ma 23), .inl (cy 1, 16, .inl tm)), ((ma 24), .inl (cy 1, 128, .inl mkf)), ((ma 25), .inl (cy 2, 128, .inr (.inl mnf))), ((ma 29), .inl (cy 1, 128, .inl mbf)), ((ma 68), .inl (cy 1, 210, .inl ttf))] s.heap.size = A at hD  ⊢
  have hA : ∀ q : Nat, s.heap.size ≤ q → A q := fun q h => by rw [← hAe]; exact Or.inr h
  have hS : va_S A s.heap s.heap [] := va_S.rf
  have hP : va_P D vwCl [(hm, .inr (12, [.int cd, .ref (ma 1), (fv 2), (fv 3), .ref (ma 4), (fv 5), (fv 6), (fv 7), (fv 8), (fv 9), (fv 10), (fv 11), (fv 12), (fv 13), (fv 14), .int hf, (fv 16), .ref (ma 17), .ref (ma 18), .ref (ma 19), .ref (ma 20), .ref (ma 21), .ref (ma 22), .ref (ma 23), .ref (ma 24), .ref (ma 25), .ref (ma 26), .ref (ma 27), .ref (ma 28), .ref (ma 29), .ref (ma 30), .ref (ma 31), .ref (ma 32), .ref (ma 33), .ref (ma 34), .ref (ma 35), .ref (ma 36), .ref (ma 37), .ref (ma 38), .ref (ma 39), .ref (ma 40), .ref (ma 41), .ref (ma 42), .ref (ma 43), .ref (ma 44), .ref (ma 45), .ref (ma 46), .ref (ma 47), .ref (ma 48), (fv 49), (fv 50), (fv 51), (fv 52), (fv 53), (fv 54), (fv 55), (fv 56), (fv 57), (fv 58), .ref (ma 59), .ref (ma 60), (fv 61), (fv 62), .int (nI st), .int (nI dp), .int 0, .int rv, .ref (ma 67), .ref (ma 68), .ref (ma 69), .int md, (fv 71), .int (nI se), .ref (ma 73)])), ((ma 39), .inl (cy 1, 3400, .inl kf)), ((ma 40), .inl (cy 1, 3400, .inl af)), ((ma 46), .inl (cy 2, 3400, .inr (.inl nf))), ((ma 23), .inl (cy 1, 16, .inl tm)), ((ma 24), .inl (cy 1, 128, .inl mkf)), ((ma 25), .inl (cy 2, 128, .inr (.inl mnf))), ((ma 29), .inl (cy 1, 128, .inl mbf)), ((ma 68), .inl (cy 1, 210, .inl ttf))] s.heap := hP
  have hl := lv_entry ([.ref hm, .int (nI bb), .int fr]) (n := 5) (Nat.le_of_ble_eq_true rfl)
  rw [lg_entry_eq]
  generalize (lg_sl ([.ref hm, .int (nI bb), .int fr]) ++ List.replicate (5 - (lg_sl ([.ref hm, .int (nI bb), .int fr])).length) Slot.unset).toArray = ls at hl ⊢
  have hl : lv_has ls 5 [(0, .ref hm), (1, .int (nI bb)), (2, .int fr)] := hl
  obtain ⟨dK, dK0, dKj, dN0, dse, dtt, dt, dtm, dmk, dmn, dmb, dbb, dab, dss0, dss, dks, das⟩ := hd
  refine lv_aload_n hx hb dX12_runBody_0 rfl (lv_at hl 0 rfl) ?_
  refine va_get (D := D) (ci := 12) (v := .ref (ma 40)) (C := RX12) (T := TX12) (N := 74) hx hb hT i_TX12 hown hK hP 0 rfl rfl 40 (by decide) (hT _ t_1755) (fun _ h9 => h9) rfl dX12_runBody_1 ?_
  refine lv_iload_n hx hb dX12_runBody_4 rfl (lv_at hl 1 rfl) ?_
  refine va_iald hx hb hK hP 2 1 rfl rfl (vp_in_nI dbb (by decide)) dX12_runBody_5 ?_
  refine lv_topi (fun z1 e2 => ?_)
  obtain rfl : z1 = (nI ss) := e2.trans (by rw [nI_clamp (n := bb) (by omega)]; exact dab)
  refine lv_istore_n (lv' := [(3, .int (nI ss)), (0, .ref hm), (1, .int (nI bb)), (2, .int fr)]) hx hb dX12_runBody_6 rfl hl (by decide) rfl (fun ls hl => ?_)
  refine lv_iload_n hx hb dX12_runBody_7 rfl (lv_at hl 0 rfl) ?_
  refine lv_if_eq (tgt := 46) hx hb dX12_runBody_8 (by decide) (fun c9 => absurd c9 (nI_ne0 dss0 (by omega))) (fun _ => ?_)
  refine lv_aload_n hx hb dX12_runBody_11 rfl (lv_at hl 1 rfl) ?_
  rcases Nat.eq_zero_or_pos d with rfl | hpos
  · exact va_dieV (Pc := fun _ _ => True) (ws := .code yX12_steps cX12_steps 1 (some .boolean) :: TB) (As := []) (rest := []) ⟨hx, hb, hml, hown, hT⟩ (fun k h9 => absurd h9 (by omega)) (cwV 0 hT (gTBV t_2181 t_2183 t_123 t_153 t_2184) rfl rfl rfl (by decide +kernel) ⟨by decide, by decide⟩) ⟨fun _ _ _ _ _ => trivial, va_recv hK hP (ci := 12) (q0 := 0) rfl rfl, fun _ _ _ => trivial⟩ hex hmc hlocks htg rfl rfl hl.1 rfl (lv_room (Nat.le_of_ble_eq_true rfl)) dX12_runBody_12 rfl rfl (Nat.le_of_ble_eq_true rfl) (Nat.le_of_ble_eq_true rfl)
  · obtain ⟨k, rfl⟩ : ∃ k, d = k + 1 := ⟨d - 1, by omega⟩
    have hPc := hP.sub (ws' := [(hm, .inr (12, [.int cd, .ref (ma 1), (fv 2), (fv 3), .ref (ma 4), (fv 5), (fv 6), (fv 7), (fv 8), (fv 9), (fv 10), (fv 11), (fv 12), (fv 13), (fv 14), .int hf, (fv 16), .ref (ma 17), .ref (ma 18), .ref (ma 19), .ref (ma 20), .ref (ma 21), .ref (ma 22), .ref (ma 23), .ref (ma 24), .ref (ma 25), .ref (ma 26), .ref (ma 27), .ref (ma 28), .ref (ma 29), .ref (ma 30), .ref (ma 31), .ref (ma 32), .ref (ma 33), .ref (ma 34), .ref (ma 35), .ref (ma 36), .ref (ma 37), .ref (ma 38), .ref (ma 39), .ref (ma 40), .ref (ma 41), .ref (ma 42), .ref (ma 43), .ref (ma 44), .ref (ma 45), .ref (ma 46), .ref (ma 47), .ref (ma 48), (fv 49), (fv 50), (fv 51), (fv 52), (fv 53), (fv 54), (fv 55), (fv 56), (fv 57), (fv 58), .ref (ma 59), .ref (ma 60), (fv 61), (fv 62), .int (nI st), .int (nI dp), .int 0, .int rv, .ref (ma 67), .ref (ma 68), .ref (ma 69), .int md, (fv 71), .int (nI se), .ref (ma 73)]))]) [0] rfl
    have hDc := hD.sub (ws' := [(hm, .inr (12, [.int cd, .ref (ma 1), (fv 2), (fv 3), .ref (ma 4), (fv 5), (fv 6), (fv 7), (fv 8), (fv 9), (fv 10), (fv 11), (fv 12), (fv 13), (fv 14), .int hf, (fv 16), .ref (ma 17), .ref (ma 18), .ref (ma 19), .ref (ma 20), .ref (ma 21), .ref (ma 22), .ref (ma 23), .ref (ma 24), .ref (ma 25), .ref (ma 26), .ref (ma 27), .ref (ma 28), .ref (ma 29), .ref (ma 30), .ref (ma 31), .ref (ma 32), .ref (ma 33), .ref (ma 34), .ref (ma 35), .ref (ma 36), .ref (ma 37), .ref (ma 38), .ref (ma 39), .ref (ma 40), .ref (ma 41), .ref (ma 42), .ref (ma 43), .ref (ma 44), .ref (ma 45), .ref (ma 46), .ref (ma 47), .ref (ma 48), (fv 49), (fv 50), (fv 51), (fv 52), (fv 53), (fv 54), (fv 55), (fv 56), (fv 57), (fv 58), .ref (ma 59), .ref (ma 60), (fv 61), (fv 62), .int (nI st), .int (nI dp), .int 0, .int rv, .ref (ma 67), .ref (ma 68), .ref (ma 69), .int md, (fv 71), .int (nI se), .ref (ma 73)]))]) [0] (by decide) rfl
    have hFc := va_free (wc := [(hm, .inr (12, [.int cd, .ref (ma 1), (fv 2), (fv 3), .ref (ma 4), (fv 5), (fv 6), (fv 7), (fv 8), (fv 9), (fv 10), (fv 11), (fv 12), (fv 13), (fv 14), .int hf, (fv 16), .ref (ma 17), .ref (ma 18), .ref (ma 19), .ref (ma 20), .ref (ma 21), .ref (ma 22), .ref (ma 23), .ref (ma 24), .ref (ma 25), .ref (ma 26), .ref (ma 27), .ref (ma 28), .ref (ma 29), .ref (ma 30), .ref (ma 31), .ref (ma 32), .ref (ma 33), .ref (ma 34), .ref (ma 35), .ref (ma 36), .ref (ma 37), .ref (ma 38), .ref (ma 39), .ref (ma 40), .ref (ma 41), .ref (ma 42), .ref (ma 43), .ref (ma 44), .ref (ma 45), .ref (ma 46), .ref (ma 47), .ref (ma 48), (fv 49), (fv 50), (fv 51), (fv 52), (fv 53), (fv 54), (fv 55), (fv 56), (fv 57), (fv 58), .ref (ma 59), .ref (ma 60), (fv 61), (fv 62), .int (nI st), .int (nI dp), .int 0, .int rv, .ref (ma 67), .ref (ma 68), .ref (ma 69), .int md, (fv 71), .int (nI se), .ref (ma 73)]))]) hD hS hA [0] rfl
    refine va_calli (va_runV (As := []) (rest := []) ⟨hx, hb, hml, hown, hT⟩ (d_steps l D cy s.heap.size hm ma fv kf af nf tm mkf mnf mbf ttf kn nn se tt bb ss nm st dp rv cd md hf hs) (cwV 0 hT (gTBV t_2181 t_2183 t_123 t_153 t_2184) rfl rfl rfl (by decide +kernel) ⟨Nat.le_add_left 1 k, Nat.le_trans (m := 40) (Nat.le_of_ble_eq_true rfl) (by show 40 ≤ 40 * (k + 1); omega)⟩) ⟨fun a U g mk q => by obtain ⟨q0, q1, qP, qK, qD⟩ := q; exact ⟨q0, q1, qP, va_K.moved (u := U) (U := U.calling g mk a) (Vm.Alike.refl U.vm) qK, qD⟩, va_recv hK hPc (ci := 12) (q0 := 0) rfl rfl, fun U hU hW => ⟨rfl, by rw [hU], by rw [hU]; exact hPc, va_K.moved hW.alike hK, hDc.weaken (fun _ _ _ _ => trivial)⟩⟩ rfl rfl hl.1 rfl (lv_room (Nat.le_of_ble_eq_true rfl)) dX12_runBody_12 ⟨Nat.le_of_ble_eq_true rfl, Nat.le_of_ble_eq_true rfl⟩) hS (fun q _ h => hFc q h) hFc (fun r3 u t H1 locs ht hvm w4 hB hz1 hk1 hS => ?_)
    obtain ⟨hP1, hD1⟩ := hB
    rw [ht] at hP1
    obtain ⟨hP, hD⟩ := va_join (wr := [((ma 39), .inl (cy 1, 3400, .inl kf)), ((ma 40), .inl (cy 1, 3400, .inl af)), ((ma 46), .inl (cy 2, 3400, .inr (.inl nf))), ((ma 23), .inl (cy 1, 16, .inl tm)), ((ma 24), .inl (cy 1, 128, .inl mkf)), ((ma 25), .inl (cy 2, 128, .inr (.inl mnf))), ((ma 29), .inl (cy 1, 128, .inl mbf)), ((ma 68), .inl (cy 1, 210, .inl ttf))]) (w1 := [(hm, .inr (12, [.int cd, .ref (ma 1), (fv 2), (fv 3), .ref (ma 4), (fv 5), (fv 6), (fv 7), (fv 8), (fv 9), (fv 10), (fv 11), (fv 12), (fv 13), (fv 14), .int hf, (fv 16), .ref (ma 17), .ref (ma 18), .ref (ma 19), .ref (ma 20), .ref (ma 21), .ref (ma 22), .ref (ma 23), .ref (ma 24), .ref (ma 25), .ref (ma 26), .ref (ma 27), .ref (ma 28), .ref (ma 29), .ref (ma 30), .ref (ma 31), .ref (ma 32), .ref (ma 33), .ref (ma 34), .ref (ma 35), .ref (ma 36), .ref (ma 37), .ref (ma 38), .ref (ma 39), .ref (ma 40), .ref (ma 41), .ref (ma 42), .ref (ma 43), .ref (ma 44), .ref (ma 45), .ref (ma 46), .ref (ma 47), .ref (ma 48), (fv 49), (fv 50), (fv 51), (fv 52), (fv 53), (fv 54), (fv 55), (fv 56), (fv 57), (fv 58), .ref (ma 59), .ref (ma 60), (fv 61), (fv 62), .int (nI (st + 1)), .int (nI dp), .int 0, .int rv, .ref (ma 67), .ref (ma 68), .ref (ma 69), .int md, (fv 71), .int (nI se), .ref (ma 73)]))]) hP hD [0] [1, 2, 3, 4, 5, 6, 7, 8] rfl rfl (by decide) (by decide) hk1 hFc hP1 hD1
    generalize H1 = H at hP hS ⊢
    have hP : va_P D vwCl [((ma 39), .inl (cy 1, 3400, .inl kf)), ((ma 40), .inl (cy 1, 3400, .inl af)), ((ma 46), .inl (cy 2, 3400, .inr (.inl nf))), ((ma 23), .inl (cy 1, 16, .inl tm)), ((ma 24), .inl (cy 1, 128, .inl mkf)), ((ma 25), .inl (cy 2, 128, .inr (.inl mnf))), ((ma 29), .inl (cy 1, 128, .inl mbf)), ((ma 68), .inl (cy 1, 210, .inl ttf)), (hm, .inr (12, [.int cd, .ref (ma 1), (fv 2), (fv 3), .ref (ma 4), (fv 5), (fv 6), (fv 7), (fv 8), (fv 9), (fv 10), (fv 11), (fv 12), (fv 13), (fv 14), .int hf, (fv 16), .ref (ma 17), .ref (ma 18), .ref (ma 19), .ref (ma 20), .ref (ma 21), .ref (ma 22), .ref (ma 23), .ref (ma 24), .ref (ma 25), .ref (ma 26), .ref (ma 27), .ref (ma 28), .ref (ma 29), .ref (ma 30), .ref (ma 31), .ref (ma 32), .ref (ma 33), .ref (ma 34), .ref (ma 35), .ref (ma 36), .ref (ma 37), .ref (ma 38), .ref (ma 39), .ref (ma 40), .ref (ma 41), .ref (ma 42), .ref (ma 43), .ref (ma 44), .ref (ma 45), .ref (ma 46), .ref (ma 47), .ref (ma 48), (fv 49), (fv 50), (fv 51), (fv 52), (fv 53), (fv 54), (fv 55), (fv 56), (fv 57), (fv 58), .ref (ma 59), .ref (ma 60), (fv 61), (fv 62), .int (nI (st + 1)), .int (nI dp), .int 0, .int rv, .ref (ma 67), .ref (ma 68), .ref (ma 69), .int md, (fv 71), .int (nI se), .ref (ma 73)]))] H := hP
    have hD : va_D A [((ma 39), .inl (cy 1, 3400, .inl kf)), ((ma 40), .inl (cy 1, 3400, .inl af)), ((ma 46), .inl (cy 2, 3400, .inr (.inl nf))), ((ma 23), .inl (cy 1, 16, .inl tm)), ((ma 24), .inl (cy 1, 128, .inl mkf)), ((ma 25), .inl (cy 2, 128, .inr (.inl mnf))), ((ma 29), .inl (cy 1, 128, .inl mbf)), ((ma 68), .inl (cy 1, 210, .inl ttf)), (hm, .inr (12, [.int cd, .ref (ma 1), (fv 2), (fv 3), .ref (ma 4), (fv 5), (fv 6), (fv 7), (fv 8), (fv 9), (fv 10), (fv 11), (fv 12), (fv 13), (fv 14), .int hf, (fv 16), .ref (ma 17), .ref (ma 18), .ref (ma 19), .ref (ma 20), .ref (ma 21), .ref (ma 22), .ref (ma 23), .ref (ma 24), .ref (ma 25), .ref (ma 26), .ref (ma 27), .ref (ma 28), .ref (ma 29), .ref (ma 30), .ref (ma 31), .ref (ma 32), .ref (ma 33), .ref (ma 34), .ref (ma 35), .ref (ma 36), .ref (ma 37), .ref (ma 38), .ref (ma 39), .ref (ma 40), .ref (ma 41), .ref (ma 42), .ref (ma 43), .ref (ma 44), .ref (ma 45), .ref (ma 46), .ref (ma 47), .ref (ma 48), (fv 49), (fv 50), (fv 51), (fv 52), (fv 53), (fv 54), (fv 55), (fv 56), (fv 57), (fv 58), .ref (ma 59), .ref (ma 60), (fv 61), (fv 62), .int (nI (st + 1)), .int (nI dp), .int 0, .int rv, .ref (ma 67), .ref (ma 68), .ref (ma 69), .int md, (fv 71), .int (nI se), .ref (ma 73)]))] := hD
    obtain rfl : r3 = 1 := w4
    refine lv_if_ne (tgt := 20) hx hb dX12_runBody_15 (by decide) (fun _ => ?_) (fun c9 => absurd c9 (by decide))
    refine lv_aload_n hx hb dX12_runBody_20 rfl (lv_at hl 1 rfl) ?_
    refine lv_iload_n hx hb dX12_runBody_21 rfl (lv_at hl 0 rfl) ?_
    refine lv_iload_n hx hb dX12_runBody_22 rfl (lv_at hl 3 rfl) ?_
    have hPc := hP.sub (ws' := [(hm, .inr (12, [.int cd, .ref (ma 1), (fv 2), (fv 3), .ref (ma 4), (fv 5), (fv 6), (fv 7), (fv 8), (fv 9), (fv 10), (fv 11), (fv 12), (fv 13), (fv 14), .int hf, (fv 16), .ref (ma 17), .ref (ma 18), .ref (ma 19), .ref (ma 20), .ref (ma 21), .ref (ma 22), .ref (ma 23), .ref (ma 24), .ref (ma 25), .ref (ma 26), .ref (ma 27), .ref (ma 28), .ref (ma 29), .ref (ma 30), .ref (ma 31), .ref (ma 32), .ref (ma 33), .ref (ma 34), .ref (ma 35), .ref (ma 36), .ref (ma 37), .ref (ma 38), .ref (ma 39), .ref (ma 40), .ref (ma 41), .ref (ma 42), .ref (ma 43), .ref (ma 44), .ref (ma 45), .ref (ma 46), .ref (ma 47), .ref (ma 48), (fv 49), (fv 50), (fv 51), (fv 52), (fv 53), (fv 54), (fv 55), (fv 56), (fv 57), (fv 58), .ref (ma 59), .ref (ma 60), (fv 61), (fv 62), .int (nI (st + 1)), .int (nI dp), .int 0, .int rv, .ref (ma 67), .ref (ma 68), .ref (ma 69), .int md, (fv 71), .int (nI se), .ref (ma 73)])), ((ma 39), .inl (cy 1, 3400, .inl kf)), ((ma 40), .inl (cy 1, 3400, .inl af)), ((ma 46), .inl (cy 2, 3400, .inr (.inl nf))), ((ma 23), .inl (cy 1, 16, .inl tm)), ((ma 24), .inl (cy 1, 128, .inl mkf)), ((ma 25), .inl (cy 2, 128, .inr (.inl mnf))), ((ma 29), .inl (cy 1, 128, .inl mbf)), ((ma 68), .inl (cy 1, 210, .inl ttf))]) [8, 0, 1, 2, 3, 4, 5, 6, 7] rfl
    have hDc := hD.sub (ws' := [(hm, .inr (12, [.int cd, .ref (ma 1), (fv 2), (fv 3), .ref (ma 4), (fv 5), (fv 6), (fv 7), (fv 8), (fv 9), (fv 10), (fv 11), (fv 12), (fv 13), (fv 14), .int hf, (fv 16), .ref (ma 17), .ref (ma 18), .ref (ma 19), .ref (ma 20), .ref (ma 21), .ref (ma 22), .ref (ma 23), .ref (ma 24), .ref (ma 25), .ref (ma 26), .ref (ma 27), .ref (ma 28), .ref (ma 29), .ref (ma 30), .ref (ma 31), .ref (ma 32), .ref (ma 33), .ref (ma 34), .ref (ma 35), .ref (ma 36), .ref (ma 37), .ref (ma 38), .ref (ma 39), .ref (ma 40), .ref (ma 41), .ref (ma 42), .ref (ma 43), .ref (ma 44), .ref (ma 45), .ref (ma 46), .ref (ma 47), .ref (ma 48), (fv 49), (fv 50), (fv 51), (fv 52), (fv 53), (fv 54), (fv 55), (fv 56), (fv 57), (fv 58), .ref (ma 59), .ref (ma 60), (fv 61), (fv 62), .int (nI (st + 1)), .int (nI dp), .int 0, .int rv, .ref (ma 67), .ref (ma 68), .ref (ma 69), .int md, (fv 71), .int (nI se), .ref (ma 73)])), ((ma 39), .inl (cy 1, 3400, .inl kf)), ((ma 40), .inl (cy 1, 3400, .inl af)), ((ma 46), .inl (cy 2, 3400, .inr (.inl nf))), ((ma 23), .inl (cy 1, 16, .inl tm)), ((ma 24), .inl (cy 1, 128, .inl mkf)), ((ma 25), .inl (cy 2, 128, .inr (.inl mnf))), ((ma 29), .inl (cy 1, 128, .inl mbf)), ((ma 68), .inl (cy 1, 210, .inl ttf))]) [8, 0, 1, 2, 3, 4, 5, 6, 7] (by decide) rfl
    exact va_dieV  (As := [.int (nI ss), .int fr]) (rest := []) ⟨hx, hb, hml, hown, hT⟩ (fun k h9 => hN k h9 H.size) (cwV 2 hT (gTBV t_2205 t_2207 t_129 t_153 t_2208) rfl rfl rfl (by decide +kernel) ⟨by decide, by decide⟩) ⟨fun a U g mk q => by obtain ⟨q0, q1, qP, qK, qD⟩ := q; exact ⟨q0, q1, qP, va_K.moved (u := U) (U := U.calling g mk a) (Vm.Alike.refl U.vm) qK, qD⟩, va_recv hK hP (ci := 12) (q0 := 8) rfl rfl, fun U hU hW => ⟨rfl, by rw [hU], by rw [hU]; exact hPc, va_K.moved hW.alike hK, hDc.weaken (fun _ _ _ _ => trivial)⟩⟩ hex hmc hlocks htg rfl rfl hl.1 rfl (lv_room (Nat.le_of_ble_eq_true rfl)) dX12_runBody_23 rfl rfl (Nat.le_of_ble_eq_true rfl) (Nat.le_of_ble_eq_true rfl)

set_option maxHeartbeats 4000000 in
set_option maxRecDepth 100000 in
theorem d_run1 (l : Launch) (D : va_G) (cy : Nat → ClassId) (sz : Nat) (hm : Nat) (ma : Nat → Nat) (fv : Nat → Value) (kf : Nat → Int32) (af : Nat → Int32) (nf : Nat → Int64) (tm : Nat → Int32) (mkf : Nat → Int32) (mnf : Nat → Int64) (mbf : Nat → Int32) (ttf : Nat → Int32) (kn : Nat → Nat) (nn : Nat) (se : Nat) (tt : Nat) (bb : Nat) (ss : Nat) (nm : Int64) (st : Nat) (dp : Nat) (rv : Int32) (cd : Int32) (md : Int32) (hf : Int32) (fr : Int32) (d : Nat) (hd : Dp kf af nf tm mkf mnf mbf ttf kn nn se tt bb ss nm) (hN : ∀ k, d = k + 1 → ∀ (sz : Nat), Dies l yX12_work (.code yX12_work cX12_work 5 (some .int) :: TB) k (va_Pc [.ref hm, .int (nI (kn nn)), .int fr] (fun U => U.heap.size = sz ∧ va_P D vwCl [(hm, .inr (12, [.int cd, .ref (ma 1), (fv 2), (fv 3), .ref (ma 4), (fv 5), (fv 6), (fv 7), (fv 8), (fv 9), (fv 10), (fv 11), (fv 12), (fv 13), (fv 14), .int hf, (fv 16), .ref (ma 17), .ref (ma 18), .ref (ma 19), .ref (ma 20), .ref (ma 21), .ref (ma 22), .ref (ma 23), .ref (ma 24), .ref (ma 25), .ref (ma 26), .ref (ma 27), .ref (ma 28), .ref (ma 29), .ref (ma 30), .ref (ma 31), .ref (ma 32), .ref (ma 33), .ref (ma 34), .ref (ma 35), .ref (ma 36), .ref (ma 37), .ref (ma 38), .ref (ma 39), .ref (ma 40), .ref (ma 41), .ref (ma 42), .ref (ma 43), .ref (ma 44), .ref (ma 45), .ref (ma 46), .ref (ma 47), .ref (ma 48), (fv 49), (fv 50), (fv 51), (fv 52), (fv 53), (fv 54), (fv 55), (fv 56), (fv 57), (fv 58), .ref (ma 59), .ref (ma 60), (fv 61), (fv 62), .int (nI st), .int (nI dp), .int 0, .int rv, .ref (ma 67), .ref (ma 68), .ref (ma 69), .int md, (fv 71), .int (nI se), .ref (ma 73)])), ((ma 39), .inl (cy 1, 3400, .inl kf)), ((ma 40), .inl (cy 1, 3400, .inl af)), ((ma 46), .inl (cy 2, 3400, .inr (.inl nf))), ((ma 23), .inl (cy 1, 16, .inl tm)), ((ma 24), .inl (cy 1, 128, .inl mkf)), ((ma 25), .inl (cy 2, 128, .inr (.inl mnf))), ((ma 29), .inl (cy 1, 128, .inl mbf)), ((ma 68), .inl (cy 1, 210, .inl ttf))] U.heap ∧ va_K D vwCl (TY cy) U ∧ va_D (fun _ => True) [(hm, .inr (12, [.int cd, .ref (ma 1), (fv 2), (fv 3), .ref (ma 4), (fv 5), (fv 6), (fv 7), (fv 8), (fv 9), (fv 10), (fv 11), (fv 12), (fv 13), (fv 14), .int hf, (fv 16), .ref (ma 17), .ref (ma 18), .ref (ma 19), .ref (ma 20), .ref (ma 21), .ref (ma 22), .ref (ma 23), .ref (ma 24), .ref (ma 25), .ref (ma 26), .ref (ma 27), .ref (ma 28), .ref (ma 29), .ref (ma 30), .ref (ma 31), .ref (ma 32), .ref (ma 33), .ref (ma 34), .ref (ma 35), .ref (ma 36), .ref (ma 37), .ref (ma 38), .ref (ma 39), .ref (ma 40), .ref (ma 41), .ref (ma 42), .ref (ma 43), .ref (ma 44), .ref (ma 45), .ref (ma 46), .ref (ma 47), .ref (ma 48), (fv 49), (fv 50), (fv 51), (fv 52), (fv 53), (fv 54), (fv 55), (fv 56), (fv 57), (fv 58), .ref (ma 59), .ref (ma 60), (fv 61), (fv 62), .int (nI st), .int (nI dp), .int 0, .int rv, .ref (ma 67), .ref (ma 68), .ref (ma 69), .int md, (fv 71), .int (nI se), .ref (ma 73)])), ((ma 39), .inl (cy 1, 3400, .inl kf)), ((ma 40), .inl (cy 1, 3400, .inl af)), ((ma 46), .inl (cy 2, 3400, .inr (.inl nf))), ((ma 23), .inl (cy 1, 16, .inl tm)), ((ma 24), .inl (cy 1, 128, .inl mkf)), ((ma 25), .inl (cy 2, 128, .inr (.inl mnf))), ((ma 29), .inl (cy 1, 128, .inl mbf)), ((ma 68), .inl (cy 1, 210, .inl ttf))]))) : Dies l yX12_run (.code yX12_run cX12_run 5 (some .int) :: TB) d (va_Pc [.ref hm, .int (nI ss), .int fr] (fun U => U.heap.size = sz ∧ va_P D vwCl [(hm, .inr (12, [.int cd, .ref (ma 1), (fv 2), (fv 3), .ref (ma 4), (fv 5), (fv 6), (fv 7), (fv 8), (fv 9), (fv 10), (fv 11), (fv 12), (fv 13), (fv 14), .int hf, (fv 16), .ref (ma 17), .ref (ma 18), .ref (ma 19), .ref (ma 20), .ref (ma 21), .ref (ma 22), .ref (ma 23), .ref (ma 24), .ref (ma 25), .ref (ma 26), .ref (ma 27), .ref (ma 28), .ref (ma 29), .ref (ma 30), .ref (ma 31), .ref (ma 32), .ref (ma 33), .ref (ma 34), .ref (ma 35), .ref (ma 36), .ref (ma 37), .ref (ma 38), .ref (ma 39), .ref (ma 40), .ref (ma 41), .ref (ma 42), .ref (ma 43), .ref (ma 44), .ref (ma 45), .ref (ma 46), .ref (ma 47), .ref (ma 48), (fv 49), (fv 50), (fv 51), (fv 52), (fv 53), (fv 54), (fv 55), (fv 56), (fv 57), (fv 58), .ref (ma 59), .ref (ma 60), (fv 61), (fv 62), .int (nI st), .int (nI dp), .int 0, .int rv, .ref (ma 67), .ref (ma 68), .ref (ma 69), .int md, (fv 71), .int (nI se), .ref (ma 73)])), ((ma 39), .inl (cy 1, 3400, .inl kf)), ((ma 40), .inl (cy 1, 3400, .inl af)), ((ma 46), .inl (cy 2, 3400, .inr (.inl nf))), ((ma 23), .inl (cy 1, 16, .inl tm)), ((ma 24), .inl (cy 1, 128, .inl mkf)), ((ma 25), .inl (cy 2, 128, .inr (.inl mnf))), ((ma 29), .inl (cy 1, 128, .inl mbf)), ((ma 68), .inl (cy 1, 210, .inl ttf))] U.heap ∧ va_K D vwCl (TY cy) U ∧ va_D (fun _ => True) [(hm, .inr (12, [.int cd, .ref (ma 1), (fv 2), (fv 3), .ref (ma 4), (fv 5), (fv 6), (fv 7), (fv 8), (fv 9), (fv 10), (fv 11), (fv 12), (fv 13), (fv 14), .int hf, (fv 16), .ref (ma 17), .ref (ma 18), .ref (ma 19), .ref (ma 20), .ref (ma 21), .ref (ma 22), .ref (ma 23), .ref (ma 24), .ref (ma 25), .ref (ma 26), .ref (ma 27), .ref (ma 28), .ref (ma 29), .ref (ma 30), .ref (ma 31), .ref (ma 32), .ref (ma 33), .ref (ma 34), .ref (ma 35), .ref (ma 36), .ref (ma 37), .ref (ma 38), .ref (ma 39), .ref (ma 40), .ref (ma 41), .ref (ma 42), .ref (ma 43), .ref (ma 44), .ref (ma 45), .ref (ma 46), .ref (ma 47), .ref (ma 48), (fv 49), (fv 50), (fv 51), (fv 52), (fv 53), (fv 54), (fv 55), (fv 56), (fv 57), (fv 58), .ref (ma 59), .ref (ma 60), (fv 61), (fv 62), .int (nI st), .int (nI dp), .int 0, .int rv, .ref (ma 67), .ref (ma 68), .ref (ma 69), .int md, (fv 71), .int (nI se), .ref (ma 73)])), ((ma 39), .inl (cy 1, 3400, .inl kf)), ((ma 40), .inl (cy 1, 3400, .inl af)), ((ma 46), .inl (cy 2, 3400, .inr (.inl nf))), ((ma 23), .inl (cy 1, 16, .inl tm)), ((ma 24), .inl (cy 1, 128, .inl mkf)), ((ma 25), .inl (cy 2, 128, .inr (.inl mnf))), ((ma 29), .inl (cy 1, 128, .inl mbf)), ((ma 68), .inl (cy 1, 210, .inl ttf))])) := by
  refine Dies.ofW (cc := cX12_run) (maxL := 5) (ret := (some .int)) (by decide) rfl ?_
  intro p e s m args below meth c s₁ B hml hex hmc htg hv
  obtain ⟨rfl, hsz, hP, hK, hD0⟩ := hv
  have hx := B.exec
  have hb := B.bytes
  have hr := B.returns
  have hts := atoms_spec (ws := .code yX12_run cX12_run 5 (some .int) :: TB) B.pre
  have hT : ∀ w ∈ TB, w.before _ s = true := fun w h => hts w (List.mem_cons_of_mem _ h)
  have hown : s.vm.findClass "MakerStartsModel" = some m.cls := findClass_of_methodNamed B.named
  have hlocks := B.notSynchronized
  subst hsz
  have hD := hD0.self (sz := s.heap.size)
  generalize hAe : va_A [(hm, .inr (12, [.int cd, .ref (ma 1), (fv 2), (fv 3), .ref (ma 4), (fv 5), (fv 6), (fv 7), (fv 8), (fv 9), (fv 10), (fv 11), (fv 12), (fv 13), (fv 14), .int hf, (fv 16), .ref (ma 17), .ref (ma 18), .ref (ma 19), .ref (ma 20), .ref (ma 21), .ref (ma 22), .ref (ma 23), .ref (ma 24), .ref (ma 25), .ref (ma 26), .ref (ma 27), .ref (ma 28), .ref (ma 29), .ref (ma 30), .ref (ma 31), .ref (ma 32), .ref (ma 33), .ref (ma 34), .ref (ma 35), .ref (ma 36), .ref (ma 37), .ref (ma 38), .ref (ma 39), .ref (ma 40), .ref (ma 41), .ref (ma 42), .ref (ma 43), .ref (ma 44), .ref (ma 45), .ref (ma 46), .ref (ma 47), .ref (ma 48), (fv 49), (fv 50), (fv 51), (fv 52), (fv 53), (fv 54), (fv 55), (fv 56), (fv 57), (fv 58), .ref (ma 59), .ref (ma 60), (fv 61), (fv 62), .int (nI st), .int (nI dp), .int 0, .int rv, .ref (ma 67), .ref (ma 68), .ref (ma 69), .int md, (fv 71), .int (nI se), .ref (ma 73)])), ((ma 39), .inl (cy 1, 3400, .inl kf)), ((ma 40), .inl (cy 1, 3400, .inl af)), ((ma 46), .inl (cy 2, 3400, .inr (.inl nf))), ((ma 23), .inl (cy 1, 16, .inl tm)), ((ma 24), .inl (cy 1, 128, .inl mkf)), ((ma 25), .inl (cy 2, 128, .inr (.inl mnf))), ((ma 29), .inl (cy 1, 128, .inl mbf)), ((ma 68), .inl (cy 1, 210, .inl ttf))] s.heap.size = A at hD  ⊢
  have hA : ∀ q : Nat, s.heap.size ≤ q → A q := fun q h => by rw [← hAe]; exact Or.inr h
  have hS : va_S A s.heap s.heap [] := va_S.rf
  have hP : va_P D vwCl [(hm, .inr (12, [.int cd, .ref (ma 1), (fv 2), (fv 3), .ref (ma 4), (fv 5), (fv 6), (fv 7), (fv 8), (fv 9), (fv 10), (fv 11), (fv 12), (fv 13), (fv 14), .int hf, (fv 16), .ref (ma 17), .ref (ma 18), .ref (ma 19), .ref (ma 20), .ref (ma 21), .ref (ma 22), .ref (ma 23), .ref (ma 24), .ref (ma 25), .ref (ma 26), .ref (ma 27), .ref (ma 28), .ref (ma 29), .ref (ma 30), .ref (ma 31), .ref (ma 32), .ref (ma 33), .ref (ma 34), .ref (ma 35), .ref (ma 36), .ref (ma 37), .ref (ma 38), .ref (ma 39), .ref (ma 40), .ref (ma 41), .ref (ma 42), .ref (ma 43), .ref (ma 44), .ref (ma 45), .ref (ma 46), .ref (ma 47), .ref (ma 48), (fv 49), (fv 50), (fv 51), (fv 52), (fv 53), (fv 54), (fv 55), (fv 56), (fv 57), (fv 58), .ref (ma 59), .ref (ma 60), (fv 61), (fv 62), .int (nI st), .int (nI dp), .int 0, .int rv, .ref (ma 67), .ref (ma 68), .ref (ma 69), .int md, (fv 71), .int (nI se), .ref (ma 73)])), ((ma 39), .inl (cy 1, 3400, .inl kf)), ((ma 40), .inl (cy 1, 3400, .inl af)), ((ma 46), .inl (cy 2, 3400, .inr (.inl nf))), ((ma 23), .inl (cy 1, 16, .inl tm)), ((ma 24), .inl (cy 1, 128, .inl mkf)), ((ma 25), .inl (cy 2, 128, .inr (.inl mnf))), ((ma 29), .inl (cy 1, 128, .inl mbf)), ((ma 68), .inl (cy 1, 210, .inl ttf))] s.heap := hP
  have hl := lv_entry ([.ref hm, .int (nI ss), .int fr]) (n := 5) (Nat.le_of_ble_eq_true rfl)
  rw [lg_entry_eq]
  generalize (lg_sl ([.ref hm, .int (nI ss), .int fr]) ++ List.replicate (5 - (lg_sl ([.ref hm, .int (nI ss), .int fr])).length) Slot.unset).toArray = ls at hl ⊢
  have hl : lv_has ls 5 [(0, .ref hm), (1, .int (nI ss)), (2, .int fr)] := hl
  obtain ⟨dK, dK0, dKj, dN0, dse, dtt, dt, dtm, dmk, dmn, dmb, dbb, dab, dss0, dss, dks, das⟩ := hd
  refine lv_aload_n hx hb dX12_run_0 rfl (lv_at hl 0 rfl) ?_
  refine va_get (D := D) (ci := 12) (v := .ref (ma 39)) (C := RX12) (T := TX12) (N := 74) hx hb hT i_TX12 hown hK hP 0 rfl rfl 39 (by decide) (hT _ t_1754) (fun _ h9 => h9) rfl dX12_run_1 ?_
  refine lv_iload_n hx hb dX12_run_4 rfl (lv_at hl 1 rfl) ?_
  refine va_iald hx hb hK hP 1 1 rfl rfl (vp_in_nI dss (by decide)) dX12_run_5 ?_
  refine lv_topi (fun z1 e2 => ?_)
  obtain rfl : z1 = 17 := e2.trans (by rw [nI_clamp (n := ss) (by omega)]; exact dks)
  refine lv_tableIn (off := 229) (tgt := 235) hx hb dX12_run_6 (by decide) (by decide) (by decide) (by decide) ?_
  refine lv_aload_n hx hb dX12_run_235 rfl (lv_at hl 0 rfl) ?_
  refine lv_aload_n hx hb dX12_run_236 rfl (lv_at hl 0 rfl) ?_
  refine va_get (D := D) (ci := 12) (v := .ref (ma 40)) (C := RX12) (T := TX12) (N := 74) hx hb hT i_TX12 hown hK hP 0 rfl rfl 40 (by decide) (hT _ t_1755) (fun _ h9 => h9) rfl dX12_run_237 ?_
  refine lv_iload_n hx hb dX12_run_240 rfl (lv_at hl 1 rfl) ?_
  refine va_iald hx hb hK hP 2 1 rfl rfl (vp_in_nI dss (by decide)) dX12_run_241 ?_
  refine lv_topi (fun z3 e4 => ?_)
  obtain rfl : z3 = (nI (kn nn)) := e4.trans (by rw [nI_clamp (n := ss) (by omega)]; exact das)
  refine lv_iload_n hx hb dX12_run_242 rfl (lv_at hl 2 rfl) ?_
  have hPc := hP.sub (ws' := [(hm, .inr (12, [.int cd, .ref (ma 1), (fv 2), (fv 3), .ref (ma 4), (fv 5), (fv 6), (fv 7), (fv 8), (fv 9), (fv 10), (fv 11), (fv 12), (fv 13), (fv 14), .int hf, (fv 16), .ref (ma 17), .ref (ma 18), .ref (ma 19), .ref (ma 20), .ref (ma 21), .ref (ma 22), .ref (ma 23), .ref (ma 24), .ref (ma 25), .ref (ma 26), .ref (ma 27), .ref (ma 28), .ref (ma 29), .ref (ma 30), .ref (ma 31), .ref (ma 32), .ref (ma 33), .ref (ma 34), .ref (ma 35), .ref (ma 36), .ref (ma 37), .ref (ma 38), .ref (ma 39), .ref (ma 40), .ref (ma 41), .ref (ma 42), .ref (ma 43), .ref (ma 44), .ref (ma 45), .ref (ma 46), .ref (ma 47), .ref (ma 48), (fv 49), (fv 50), (fv 51), (fv 52), (fv 53), (fv 54), (fv 55), (fv 56), (fv 57), (fv 58), .ref (ma 59), .ref (ma 60), (fv 61), (fv 62), .int (nI st), .int (nI dp), .int 0, .int rv, .ref (ma 67), .ref (ma 68), .ref (ma 69), .int md, (fv 71), .int (nI se), .ref (ma 73)])), ((ma 39), .inl (cy 1, 3400, .inl kf)), ((ma 40), .inl (cy 1, 3400, .inl af)), ((ma 46), .inl (cy 2, 3400, .inr (.inl nf))), ((ma 23), .inl (cy 1, 16, .inl tm)), ((ma 24), .inl (cy 1, 128, .inl mkf)), ((ma 25), .inl (cy 2, 128, .inr (.inl mnf))), ((ma 29), .inl (cy 1, 128, .inl mbf)), ((ma 68), .inl (cy 1, 210, .inl ttf))]) [0, 1, 2, 3, 4, 5, 6, 7, 8] rfl
  have hDc := hD.sub (ws' := [(hm, .inr (12, [.int cd, .ref (ma 1), (fv 2), (fv 3), .ref (ma 4), (fv 5), (fv 6), (fv 7), (fv 8), (fv 9), (fv 10), (fv 11), (fv 12), (fv 13), (fv 14), .int hf, (fv 16), .ref (ma 17), .ref (ma 18), .ref (ma 19), .ref (ma 20), .ref (ma 21), .ref (ma 22), .ref (ma 23), .ref (ma 24), .ref (ma 25), .ref (ma 26), .ref (ma 27), .ref (ma 28), .ref (ma 29), .ref (ma 30), .ref (ma 31), .ref (ma 32), .ref (ma 33), .ref (ma 34), .ref (ma 35), .ref (ma 36), .ref (ma 37), .ref (ma 38), .ref (ma 39), .ref (ma 40), .ref (ma 41), .ref (ma 42), .ref (ma 43), .ref (ma 44), .ref (ma 45), .ref (ma 46), .ref (ma 47), .ref (ma 48), (fv 49), (fv 50), (fv 51), (fv 52), (fv 53), (fv 54), (fv 55), (fv 56), (fv 57), (fv 58), .ref (ma 59), .ref (ma 60), (fv 61), (fv 62), .int (nI st), .int (nI dp), .int 0, .int rv, .ref (ma 67), .ref (ma 68), .ref (ma 69), .int md, (fv 71), .int (nI se), .ref (ma 73)])), ((ma 39), .inl (cy 1, 3400, .inl kf)), ((ma 40), .inl (cy 1, 3400, .inl af)), ((ma 46), .inl (cy 2, 3400, .inr (.inl nf))), ((ma 23), .inl (cy 1, 16, .inl tm)), ((ma 24), .inl (cy 1, 128, .inl mkf)), ((ma 25), .inl (cy 2, 128, .inr (.inl mnf))), ((ma 29), .inl (cy 1, 128, .inl mbf)), ((ma 68), .inl (cy 1, 210, .inl ttf))]) [0, 1, 2, 3, 4, 5, 6, 7, 8] (by decide) rfl
  exact va_dieV  (As := [.int (nI (kn nn)), .int fr]) (rest := []) ⟨hx, hb, hml, hown, hT⟩ (fun k h9 => hN k h9 s.heap.size) (cwV 2 hT (gTBV t_2189 t_2191 t_125 t_153 t_2192) rfl rfl rfl (by decide +kernel) ⟨by decide, by decide⟩) ⟨fun a U g mk q => by obtain ⟨q0, q1, qP, qK, qD⟩ := q; exact ⟨q0, q1, qP, va_K.moved (u := U) (U := U.calling g mk a) (Vm.Alike.refl U.vm) qK, qD⟩, va_recv hK hP (ci := 12) (q0 := 0) rfl rfl, fun U hU hW => ⟨rfl, by rw [hU], by rw [hU]; exact hPc, va_K.moved hW.alike hK, hDc.weaken (fun _ _ _ _ => trivial)⟩⟩ hex hmc hlocks htg rfl rfl hl.1 rfl (lv_room (Nat.le_of_ble_eq_true rfl)) dX12_run_243 rfl rfl (Nat.le_of_ble_eq_true rfl) (Nat.le_of_ble_eq_true rfl)
end
section
set_option maxHeartbeats 4000000 in
set_option maxRecDepth 100000 in
/-- an EXP with jj signs + over f(), dp MAKERS and ACTS under way: it never comes back where fewer frames are left than the way down needs -/
theorem deep_work (l : Launch) (D : va_G) (cy : Nat → ClassId) (hm : Nat) (ma : Nat → Nat) (fv : Nat → Value) (kf : Nat → Int32) (af : Nat → Int32) (nf : Nat → Int64) (tm : Nat → Int32) (mkf : Nat → Int32) (mnf : Nat → Int64) (mbf : Nat → Int32) (ttf : Nat → Int32) (kn : Nat → Nat) (nn : Nat) (se : Nat) (tt : Nat) (bb : Nat) (ss : Nat) (nm : Int64) (cd md hf : Int32) (hd : Dp kf af nf tm mkf mnf mbf ttf kn nn se tt bb ss nm) : ∀ (d st dp : Nat) (rv : Int32) (jj : Nat) (fr : Int32) (sz : Nat), jj ≤ nn → dp ≤ 24 → st + 2 * (24 - dp) < 120 → d < (24 - dp) * (nn + 4) + jj + 1 → Dies l yX12_work (.code yX12_work cX12_work 5 (some .int) :: TB) d (va_Pc [.ref hm, .int (nI (kn jj)), .int fr] (fun U => U.heap.size = sz ∧ va_P D vwCl [(hm, .inr (12, [.int cd, .ref (ma 1), (fv 2), (fv 3), .ref (ma 4), (fv 5), (fv 6), (fv 7), (fv 8), (fv 9), (fv 10), (fv 11), (fv 12), (fv 13), (fv 14), .int hf, (fv 16), .ref (ma 17), .ref (ma 18), .ref (ma 19), .ref (ma 20), .ref (ma 21), .ref (ma 22), .ref (ma 23), .ref (ma 24), .ref (ma 25), .ref (ma 26), .ref (ma 27), .ref (ma 28), .ref (ma 29), .ref (ma 30), .ref (ma 31), .ref (ma 32), .ref (ma 33), .ref (ma 34), .ref (ma 35), .ref (ma 36), .ref (ma 37), .ref (ma 38), .ref (ma 39), .ref (ma 40), .ref (ma 41), .ref (ma 42), .ref (ma 43), .ref (ma 44), .ref (ma 45), .ref (ma 46), .ref (ma 47), .ref (ma 48), (fv 49), (fv 50), (fv 51), (fv 52), (fv 53), (fv 54), (fv 55), (fv 56), (fv 57), (fv 58), .ref (ma 59), .ref (ma 60), (fv 61), (fv 62), .int (nI st), .int (nI dp), .int 0, .int rv, .ref (ma 67), .ref (ma 68), .ref (ma 69), .int md, (fv 71), .int (nI se), .ref (ma 73)])), ((ma 39), .inl (cy 1, 3400, .inl kf)), ((ma 40), .inl (cy 1, 3400, .inl af)), ((ma 46), .inl (cy 2, 3400, .inr (.inl nf))), ((ma 23), .inl (cy 1, 16, .inl tm)), ((ma 24), .inl (cy 1, 128, .inl mkf)), ((ma 25), .inl (cy 2, 128, .inr (.inl mnf))), ((ma 29), .inl (cy 1, 128, .inl mbf)), ((ma 68), .inl (cy 1, 210, .inl ttf))] U.heap ∧ va_K D vwCl (TY cy) U ∧ va_D (fun _ => True) [(hm, .inr (12, [.int cd, .ref (ma 1), (fv 2), (fv 3), .ref (ma 4), (fv 5), (fv 6), (fv 7), (fv 8), (fv 9), (fv 10), (fv 11), (fv 12), (fv 13), (fv 14), .int hf, (fv 16), .ref (ma 17), .ref (ma 18), .ref (ma 19), .ref (ma 20), .ref (ma 21), .ref (ma 22), .ref (ma 23), .ref (ma 24), .ref (ma 25), .ref (ma 26), .ref (ma 27), .ref (ma 28), .ref (ma 29), .ref (ma 30), .ref (ma 31), .ref (ma 32), .ref (ma 33), .ref (ma 34), .ref (ma 35), .ref (ma 36), .ref (ma 37), .ref (ma 38), .ref (ma 39), .ref (ma 40), .ref (ma 41), .ref (ma 42), .ref (ma 43), .ref (ma 44), .ref (ma 45), .ref (ma 46), .ref (ma 47), .ref (ma 48), (fv 49), (fv 50), (fv 51), (fv 52), (fv 53), (fv 54), (fv 55), (fv 56), (fv 57), (fv 58), .ref (ma 59), .ref (ma 60), (fv 61), (fv 62), .int (nI st), .int (nI dp), .int 0, .int rv, .ref (ma 67), .ref (ma 68), .ref (ma 69), .int md, (fv 71), .int (nI se), .ref (ma 73)])), ((ma 39), .inl (cy 1, 3400, .inl kf)), ((ma 40), .inl (cy 1, 3400, .inl af)), ((ma 46), .inl (cy 2, 3400, .inr (.inl nf))), ((ma 23), .inl (cy 1, 16, .inl tm)), ((ma 24), .inl (cy 1, 128, .inl mkf)), ((ma 25), .inl (cy 2, 128, .inr (.inl mnf))), ((ma 29), .inl (cy 1, 128, .inl mbf)), ((ma 68), .inl (cy 1, 210, .inl ttf))])) := by
  intro d
  induction d using Nat.strongRecOn with
  | _ d IH =>
    intro st dp rv jj fr sz hj hdp hst hlt
    cases jj with
    | succ j =>
      refine d_work1 l D cy sz hm ma fv kf af nf tm mkf mnf mbf ttf kn nn se tt bb ss nm st dp rv cd md hf j fr d hd (by omega) ?_
      rintro k rfl sz'
      exact IH k (by omega) st dp rv j fr sz' (by omega) hdp hst (by omega)
    | zero =>
      refine d_work0 l D cy sz hm ma fv kf af nf tm mkf mnf mbf ttf kn nn se tt bb ss nm st dp rv cd md hf fr d hd ?_
      rintro k rfl sz'
      have hdp' : dp < 24 := by
        rcases Nat.lt_or_ge dp 24 with h | h
        · exact h
        · obtain rfl : dp = 24 := by omega
          simp at hlt
      obtain ⟨q, hq⟩ : ∃ q, 24 - dp = q + 1 := ⟨23 - dp, by omega⟩
      have hq2 : 24 - (dp + 1) = q := by omega
      rw [hq, Nat.succ_mul] at hlt
      generalize hQ : q * (nn + 4) = Q at hlt
      refine d_call1 l D cy sz' hm ma fv kf af nf tm mkf mnf mbf ttf kn nn se tt bb ss nm st dp rv cd md hf k hd hdp' (by omega) ?_
      rintro k2 rfl sz2
      refine d_body1 l D cy sz2 hm ma fv kf af nf tm mkf mnf mbf ttf kn nn se tt bb ss nm (st + 1) (dp + 1) 0 cd md hf (nI (dp + 1)) k2 hd (by omega) ?_
      rintro k3 rfl sz3
      refine d_run1 l D cy sz3 hm ma fv kf af nf tm mkf mnf mbf ttf kn nn se tt bb ss nm (st + 1 + 1) (dp + 1) 0 cd md hf (nI (dp + 1)) k3 hd ?_
      rintro k4 rfl sz4
      exact IH k4 (by omega) (st + 1 + 1) (dp + 1) 0 nn (nI (dp + 1)) sz4 (Nat.le_refl _) (by omega) (by omega) (by rw [hq2, hQ]; omega)

set_option maxHeartbeats 4000000 in
set_option maxRecDepth 100000 in
/-- the same of the act itself -/
theorem deep_call (l : Launch) (D : va_G) (cy : Nat → ClassId) (sz : Nat) (hm : Nat) (ma : Nat → Nat) (fv : Nat → Value) (kf : Nat → Int32) (af : Nat → Int32) (nf : Nat → Int64) (tm : Nat → Int32) (mkf : Nat → Int32) (mnf : Nat → Int64) (mbf : Nat → Int32) (ttf : Nat → Int32) (kn : Nat → Nat) (nn : Nat) (se : Nat) (tt : Nat) (bb : Nat) (ss : Nat) (nm : Int64) (st : Nat) (dp : Nat) (rv : Int32) (cd : Int32) (md : Int32) (hf : Int32) (d : Nat) (hd : Dp kf af nf tm mkf mnf mbf ttf kn nn se tt bb ss nm) (hdp : dp < 24) (hst : st + 2 * (24 - dp) < 120) (hlt : d < (24 - dp) * (nn + 4)) : Dies l yX12_callAct (.code yX12_callAct cX12_callAct 5 (some .int) :: TB) d (va_Pc [.ref hm, .long nm] (fun U => U.heap.size = sz ∧ va_P D vwCl [(hm, .inr (12, [.int cd, .ref (ma 1), (fv 2), (fv 3), .ref (ma 4), (fv 5), (fv 6), (fv 7), (fv 8), (fv 9), (fv 10), (fv 11), (fv 12), (fv 13), (fv 14), .int hf, (fv 16), .ref (ma 17), .ref (ma 18), .ref (ma 19), .ref (ma 20), .ref (ma 21), .ref (ma 22), .ref (ma 23), .ref (ma 24), .ref (ma 25), .ref (ma 26), .ref (ma 27), .ref (ma 28), .ref (ma 29), .ref (ma 30), .ref (ma 31), .ref (ma 32), .ref (ma 33), .ref (ma 34), .ref (ma 35), .ref (ma 36), .ref (ma 37), .ref (ma 38), .ref (ma 39), .ref (ma 40), .ref (ma 41), .ref (ma 42), .ref (ma 43), .ref (ma 44), .ref (ma 45), .ref (ma 46), .ref (ma 47), .ref (ma 48), (fv 49), (fv 50), (fv 51), (fv 52), (fv 53), (fv 54), (fv 55), (fv 56), (fv 57), (fv 58), .ref (ma 59), .ref (ma 60), (fv 61), (fv 62), .int (nI st), .int (nI dp), .int 0, .int rv, .ref (ma 67), .ref (ma 68), .ref (ma 69), .int md, (fv 71), .int (nI se), .ref (ma 73)])), ((ma 39), .inl (cy 1, 3400, .inl kf)), ((ma 40), .inl (cy 1, 3400, .inl af)), ((ma 46), .inl (cy 2, 3400, .inr (.inl nf))), ((ma 23), .inl (cy 1, 16, .inl tm)), ((ma 24), .inl (cy 1, 128, .inl mkf)), ((ma 25), .inl (cy 2, 128, .inr (.inl mnf))), ((ma 29), .inl (cy 1, 128, .inl mbf)), ((ma 68), .inl (cy 1, 210, .inl ttf))] U.heap ∧ va_K D vwCl (TY cy) U ∧ va_D (fun _ => True) [(hm, .inr (12, [.int cd, .ref (ma 1), (fv 2), (fv 3), .ref (ma 4), (fv 5), (fv 6), (fv 7), (fv 8), (fv 9), (fv 10), (fv 11), (fv 12), (fv 13), (fv 14), .int hf, (fv 16), .ref (ma 17), .ref (ma 18), .ref (ma 19), .ref (ma 20), .ref (ma 21), .ref (ma 22), .ref (ma 23), .ref (ma 24), .ref (ma 25), .ref (ma 26), .ref (ma 27), .ref (ma 28), .ref (ma 29), .ref (ma 30), .ref (ma 31), .ref (ma 32), .ref (ma 33), .ref (ma 34), .ref (ma 35), .ref (ma 36), .ref (ma 37), .ref (ma 38), .ref (ma 39), .ref (ma 40), .ref (ma 41), .ref (ma 42), .ref (ma 43), .ref (ma 44), .ref (ma 45), .ref (ma 46), .ref (ma 47), .ref (ma 48), (fv 49), (fv 50), (fv 51), (fv 52), (fv 53), (fv 54), (fv 55), (fv 56), (fv 57), (fv 58), .ref (ma 59), .ref (ma 60), (fv 61), (fv 62), .int (nI st), .int (nI dp), .int 0, .int rv, .ref (ma 67), .ref (ma 68), .ref (ma 69), .int md, (fv 71), .int (nI se), .ref (ma 73)])), ((ma 39), .inl (cy 1, 3400, .inl kf)), ((ma 40), .inl (cy 1, 3400, .inl af)), ((ma 46), .inl (cy 2, 3400, .inr (.inl nf))), ((ma 23), .inl (cy 1, 16, .inl tm)), ((ma 24), .inl (cy 1, 128, .inl mkf)), ((ma 25), .inl (cy 2, 128, .inr (.inl mnf))), ((ma 29), .inl (cy 1, 128, .inl mbf)), ((ma 68), .inl (cy 1, 210, .inl ttf))])) := by
  obtain ⟨q, hq⟩ : ∃ q, 24 - dp = q + 1 := ⟨23 - dp, by omega⟩
  have hq2 : 24 - (dp + 1) = q := by omega
  rw [hq, Nat.succ_mul] at hlt
  generalize hQ : q * (nn + 4) = Q at hlt
  refine d_call1 l D cy sz hm ma fv kf af nf tm mkf mnf mbf ttf kn nn se tt bb ss nm st dp rv cd md hf d hd hdp (by omega) ?_
  rintro k2 rfl sz2
  refine d_body1 l D cy sz2 hm ma fv kf af nf tm mkf mnf mbf ttf kn nn se tt bb ss nm (st + 1) (dp + 1) 0 cd md hf (nI (dp + 1)) k2 hd (by omega) ?_
  rintro k3 rfl sz3
  refine d_run1 l D cy sz3 hm ma fv kf af nf tm mkf mnf mbf ttf kn nn se tt bb ss nm (st + 1 + 1) (dp + 1) 0 cd md hf (nI (dp + 1)) k3 hd ?_
  rintro k4 rfl sz4
  exact deep_work l D cy hm ma fv kf af nf tm mkf mnf mbf ttf kn nn se tt bb ss nm cd md hf hd k4 (st + 1 + 1) (dp + 1) 0 nn (nI (dp + 1)) sz4 (Nat.le_refl _) (by omega) (by omega) (by rw [hq2, hQ]; omega)
end
section
theorem t_104 : (Jvm.Cond.selects "MakerStartsModel" ({ cls := "MakerStartsModel", name := "makerOf", desc := "(II)I" } : Jvm.MethodName) ({ cls := "MakerStartsModel", name := "makerOf", desc := "(II)I" } : Jvm.MethodName)) ∈ TB := inTB 104 (by decide +kernel) (by decide +kernel)
theorem t_121 : (Jvm.Cond.selects "MakerStartsModel" ({ cls := "MakerStartsModel", name := "fresh", desc := "()V" } : Jvm.MethodName) ({ cls := "MakerStartsModel", name := "fresh", desc := "()V" } : Jvm.MethodName)) ∈ TB := inTB 121 (by decide +kernel) (by decide +kernel)
theorem t_122 : (Jvm.Cond.selects "MakerStartsModel" ({ cls := "MakerStartsModel", name := "makes", desc := "(IIIII)I" } : Jvm.MethodName) ({ cls := "MakerStartsModel", name := "makes", desc := "(IIIII)I" } : Jvm.MethodName)) ∈ TB := inTB 122 (by decide +kernel) (by decide +kernel)
theorem t_124 : (Jvm.Cond.selects "MakerStartsModel" ({ cls := "MakerStartsModel", name := "begin", desc := "(I)V" } : Jvm.MethodName) ({ cls := "MakerStartsModel", name := "begin", desc := "(I)V" } : Jvm.MethodName)) ∈ TB := inTB 124 (by decide +kernel) (by decide +kernel)
theorem t_133 : (Jvm.Cond.selects "MakerStartsModel" ({ cls := "MakerStartsModel", name := "lead", desc := "(IIII)V" } : Jvm.MethodName) ({ cls := "MakerStartsModel", name := "lead", desc := "(IIII)V" } : Jvm.MethodName)) ∈ TB := inTB 133 (by decide +kernel) (by decide +kernel)
theorem t_135 : (Jvm.Cond.selects "MakerStartsModel" ({ cls := "MakerStartsModel", name := "fill", desc := "(II)V" } : Jvm.MethodName) ({ cls := "MakerStartsModel", name := "fill", desc := "(II)V" } : Jvm.MethodName)) ∈ TB := inTB 135 (by decide +kernel) (by decide +kernel)
theorem t_1715 : (Jvm.Cond.fieldLink "MakerStartsModel" (177 : Nat) "MakerStartsModel" "code" "I") ∈ TB := inTB 1715 (by decide +kernel) (by decide +kernel)
theorem t_1730 : (Jvm.Cond.fieldLink "MakerStartsModel" (414 : Nat) "MakerStartsModel" "half" "I") ∈ TB := inTB 1730 (by decide +kernel) (by decide +kernel)
theorem t_1732 : (Jvm.Cond.fieldLink "MakerStartsModel" (59 : Nat) "MakerStartsModel" "typeMany" "[I") ∈ TB := inTB 1732 (by decide +kernel) (by decide +kernel)
theorem t_1737 : (Jvm.Cond.fieldLink "MakerStartsModel" (75 : Nat) "MakerStartsModel" "tUp" "[I") ∈ TB := inTB 1737 (by decide +kernel) (by decide +kernel)
theorem t_1745 : (Jvm.Cond.fieldLink "MakerStartsModel" (99 : Nat) "MakerStartsModel" "mParams" "[I") ∈ TB := inTB 1745 (by decide +kernel) (by decide +kernel)
theorem t_1748 : (Jvm.Cond.fieldLink "MakerStartsModel" (108 : Nat) "MakerStartsModel" "mLead" "[I") ∈ TB := inTB 1748 (by decide +kernel) (by decide +kernel)
theorem t_1752 : (Jvm.Cond.fieldLink "MakerStartsModel" (120 : Nat) "MakerStartsModel" "mLeadsTo" "[I") ∈ TB := inTB 1752 (by decide +kernel) (by decide +kernel)
theorem t_1774 : (Jvm.Cond.fieldLink "MakerStartsModel" (156 : Nat) "MakerStartsModel" "tState" "[I") ∈ TB := inTB 1774 (by decide +kernel) (by decide +kernel)
theorem t_1782 : (Jvm.Cond.fieldLink "MakerStartsModel" (162 : Nat) "MakerStartsModel" "params" "[I") ∈ TB := inTB 1782 (by decide +kernel) (by decide +kernel)
theorem t_1784 : (Jvm.Cond.fieldLink "MakerStartsModel" (168 : Nat) "MakerStartsModel" "cells" "[I") ∈ TB := inTB 1784 (by decide +kernel) (by decide +kernel)
theorem t_1785 : (Jvm.Cond.fieldLink "MakerStartsModel" (490 : Nat) "MakerStartsModel" "made" "I") ∈ TB := inTB 1785 (by decide +kernel) (by decide +kernel)
theorem t_2098 : (Jvm.Cond.methodLink "MakerStartsModel" (369 : Nat) ({ cls := "MakerStartsModel", name := "makerOf", desc := "(II)I" } : Jvm.MethodName)) ∈ TB := inTB 2098 (by decide +kernel) (by decide +kernel)
theorem t_2100 : (Jvm.Cond.instanceMethod ({ cls := "MakerStartsModel", name := "makerOf", desc := "(II)I" } : Jvm.MethodName)) ∈ TB := inTB 2100 (by decide +kernel) (by decide +kernel)
theorem t_2101 : (Jvm.Cond.code ({ cls := "MakerStartsModel", name := "makerOf", desc := "(II)I" } : Jvm.MethodName) prog_14_method_34_code (4 : Nat) (Option.some Jvm.ClassFile.FieldType.int)) ∈ TB := inTB 2101 (by decide +kernel) (by decide +kernel)
theorem t_2173 : (Jvm.Cond.methodLink "MakerStartsModel" (504 : Nat) ({ cls := "MakerStartsModel", name := "fresh", desc := "()V" } : Jvm.MethodName)) ∈ TB := inTB 2173 (by decide +kernel) (by decide +kernel)
theorem t_2175 : (Jvm.Cond.instanceMethod ({ cls := "MakerStartsModel", name := "fresh", desc := "()V" } : Jvm.MethodName)) ∈ TB := inTB 2175 (by decide +kernel) (by decide +kernel)
theorem t_2176 : (Jvm.Cond.code ({ cls := "MakerStartsModel", name := "fresh", desc := "()V" } : Jvm.MethodName) prog_14_method_74_code (1 : Nat) (Option.none : Option Jvm.ClassFile.FieldType)) ∈ TB := inTB 2176 (by decide +kernel) (by decide +kernel)
theorem t_2177 : (Jvm.Cond.methodLink "MakerStartsModel" (486 : Nat) ({ cls := "MakerStartsModel", name := "makes", desc := "(IIIII)I" } : Jvm.MethodName)) ∈ TB := inTB 2177 (by decide +kernel) (by decide +kernel)
theorem t_2179 : (Jvm.Cond.instanceMethod ({ cls := "MakerStartsModel", name := "makes", desc := "(IIIII)I" } : Jvm.MethodName)) ∈ TB := inTB 2179 (by decide +kernel) (by decide +kernel)
theorem t_2180 : (Jvm.Cond.code ({ cls := "MakerStartsModel", name := "makes", desc := "(IIIII)I" } : Jvm.MethodName) prog_14_method_69_code (8 : Nat) (Option.some Jvm.ClassFile.FieldType.int)) ∈ TB := inTB 2180 (by decide +kernel) (by decide +kernel)
theorem t_2185 : (Jvm.Cond.methodLink "MakerStartsModel" (459 : Nat) ({ cls := "MakerStartsModel", name := "begin", desc := "(I)V" } : Jvm.MethodName)) ∈ TB := inTB 2185 (by decide +kernel) (by decide +kernel)
theorem t_2187 : (Jvm.Cond.instanceMethod ({ cls := "MakerStartsModel", name := "begin", desc := "(I)V" } : Jvm.MethodName)) ∈ TB := inTB 2187 (by decide +kernel) (by decide +kernel)
theorem t_2188 : (Jvm.Cond.code ({ cls := "MakerStartsModel", name := "begin", desc := "(I)V" } : Jvm.MethodName) prog_14_method_73_code (7 : Nat) (Option.none : Option Jvm.ClassFile.FieldType)) ∈ TB := inTB 2188 (by decide +kernel) (by decide +kernel)
theorem t_2221 : (Jvm.Cond.methodLink "MakerStartsModel" (493 : Nat) ({ cls := "MakerStartsModel", name := "lead", desc := "(IIII)V" } : Jvm.MethodName)) ∈ TB := inTB 2221 (by decide +kernel) (by decide +kernel)
theorem t_2223 : (Jvm.Cond.instanceMethod ({ cls := "MakerStartsModel", name := "lead", desc := "(IIII)V" } : Jvm.MethodName)) ∈ TB := inTB 2223 (by decide +kernel) (by decide +kernel)
theorem t_2224 : (Jvm.Cond.code ({ cls := "MakerStartsModel", name := "lead", desc := "(IIII)V" } : Jvm.MethodName) prog_14_method_70_code (11 : Nat) (Option.none : Option Jvm.ClassFile.FieldType)) ∈ TB := inTB 2224 (by decide +kernel) (by decide +kernel)
theorem t_2229 : (Jvm.Cond.methodLink "MakerStartsModel" (501 : Nat) ({ cls := "MakerStartsModel", name := "fill", desc := "(II)V" } : Jvm.MethodName)) ∈ TB := inTB 2229 (by decide +kernel) (by decide +kernel)
theorem t_2231 : (Jvm.Cond.instanceMethod ({ cls := "MakerStartsModel", name := "fill", desc := "(II)V" } : Jvm.MethodName)) ∈ TB := inTB 2231 (by decide +kernel) (by decide +kernel)
theorem t_2232 : (Jvm.Cond.code ({ cls := "MakerStartsModel", name := "fill", desc := "(II)V" } : Jvm.MethodName) prog_14_method_72_code (4 : Nat) (Option.none : Option Jvm.ClassFile.FieldType)) ∈ TB := inTB 2232 (by decide +kernel) (by decide +kernel)
theorem dX12_begin_0 : decode cX12_begin 0 = .ok (.aload_n 0, 1) := by decide +kernel
theorem dX12_begin_1 : decode cX12_begin 1 = .ok (.getfield 443, 3) := by decide +kernel
theorem dX12_begin_4 : decode cX12_begin 4 = .ok (.ifCond .ne 13, 3) := by decide +kernel
theorem dX12_begin_7 : decode cX12_begin 7 = .ok (.aload_n 0, 1) := by decide +kernel
theorem dX12_begin_8 : decode cX12_begin 8 = .ok (.getfield 156, 3) := by decide +kernel
theorem dX12_begin_11 : decode cX12_begin 11 = .ok (.iload_n 1, 1) := by decide +kernel
theorem dX12_begin_12 : decode cX12_begin 12 = .ok (.iaload, 1) := by decide +kernel
theorem dX12_begin_13 : decode cX12_begin 13 = .ok (.iconst 1, 1) := by decide +kernel
theorem dX12_begin_14 : decode cX12_begin 14 = .ok (.if_icmp .ne 4, 3) := by decide +kernel
theorem dX12_begin_18 : decode cX12_begin 18 = .ok (.aload_n 0, 1) := by decide +kernel
theorem dX12_begin_19 : decode cX12_begin 19 = .ok (.getfield 156, 3) := by decide +kernel
theorem dX12_begin_22 : decode cX12_begin 22 = .ok (.iload_n 1, 1) := by decide +kernel
theorem dX12_begin_23 : decode cX12_begin 23 = .ok (.iaload, 1) := by decide +kernel
theorem dX12_begin_24 : decode cX12_begin 24 = .ok (.iconst 2, 1) := by decide +kernel
theorem dX12_begin_25 : decode cX12_begin 25 = .ok (.if_icmp .ne 10, 3) := by decide +kernel
theorem dX12_begin_35 : decode cX12_begin 35 = .ok (.aload_n 0, 1) := by decide +kernel
theorem dX12_begin_36 : decode cX12_begin 36 = .ok (.getfield 156, 3) := by decide +kernel
theorem dX12_begin_39 : decode cX12_begin 39 = .ok (.iload_n 1, 1) := by decide +kernel
theorem dX12_begin_40 : decode cX12_begin 40 = .ok (.iconst 1, 1) := by decide +kernel
theorem dX12_begin_41 : decode cX12_begin 41 = .ok (.iastore, 1) := by decide +kernel
theorem dX12_begin_42 : decode cX12_begin 42 = .ok (.aload_n 0, 1) := by decide +kernel
theorem dX12_begin_43 : decode cX12_begin 43 = .ok (.getfield 456, 3) := by decide +kernel
theorem dX12_begin_46 : decode cX12_begin 46 = .ok (.istore_n 2, 1) := by decide +kernel
theorem dX12_begin_47 : decode cX12_begin 47 = .ok (.aload_n 0, 1) := by decide +kernel
theorem dX12_begin_48 : decode cX12_begin 48 = .ok (.getfield 75, 3) := by decide +kernel
theorem dX12_begin_51 : decode cX12_begin 51 = .ok (.iload_n 1, 1) := by decide +kernel
theorem dX12_begin_52 : decode cX12_begin 52 = .ok (.iaload, 1) := by decide +kernel
theorem dX12_begin_53 : decode cX12_begin 53 = .ok (.iconst (-1), 1) := by decide +kernel
theorem dX12_begin_54 : decode cX12_begin 54 = .ok (.if_icmp .eq 13, 3) := by decide +kernel
theorem dX12_begin_67 : decode cX12_begin 67 = .ok (.aload_n 0, 1) := by decide +kernel
theorem dX12_begin_68 : decode cX12_begin 68 = .ok (.getfield 443, 3) := by decide +kernel
theorem dX12_begin_71 : decode cX12_begin 71 = .ok (.ifCond .eq 7, 3) := by decide +kernel
theorem dX12_begin_78 : decode cX12_begin 78 = .ok (.iconst 0, 1) := by decide +kernel
theorem dX12_begin_79 : decode cX12_begin 79 = .ok (.istore_n 3, 1) := by decide +kernel
theorem dX12_begin_80 : decode cX12_begin 80 = .ok (.iconst 0, 1) := by decide +kernel
theorem dX12_begin_81 : decode cX12_begin 81 = .ok (.istore 4, 2) := by decide +kernel
theorem dX12_begin_83 : decode cX12_begin 83 = .ok (.iload 4, 2) := by decide +kernel
theorem dX12_begin_85 : decode cX12_begin 85 = .ok (.aload_n 0, 1) := by decide +kernel
theorem dX12_begin_86 : decode cX12_begin 86 = .ok (.getfield 78, 3) := by decide +kernel
theorem dX12_begin_89 : decode cX12_begin 89 = .ok (.iload_n 1, 1) := by decide +kernel
theorem dX12_begin_90 : decode cX12_begin 90 = .ok (.iaload, 1) := by decide +kernel
theorem dX12_begin_91 : decode cX12_begin 91 = .ok (.if_icmp .ge 104, 3) := by decide +kernel
theorem dX12_begin_94 : decode cX12_begin 94 = .ok (.aload_n 0, 1) := by decide +kernel
theorem dX12_begin_95 : decode cX12_begin 95 = .ok (.getfield 443, 3) := by decide +kernel
theorem dX12_begin_98 : decode cX12_begin 98 = .ok (.ifCond .ne 97, 3) := by decide +kernel
theorem dX12_begin_101 : decode cX12_begin 101 = .ok (.bipush 8, 2) := by decide +kernel
theorem dX12_begin_103 : decode cX12_begin 103 = .ok (.iload_n 1, 1) := by decide +kernel
theorem dX12_begin_104 : decode cX12_begin 104 = .ok (.imul, 1) := by decide +kernel
theorem dX12_begin_105 : decode cX12_begin 105 = .ok (.iload 4, 2) := by decide +kernel
theorem dX12_begin_107 : decode cX12_begin 107 = .ok (.iadd, 1) := by decide +kernel
theorem dX12_begin_108 : decode cX12_begin 108 = .ok (.istore 5, 2) := by decide +kernel
theorem dX12_begin_110 : decode cX12_begin 110 = .ok (.aload_n 0, 1) := by decide +kernel
theorem dX12_begin_111 : decode cX12_begin 111 = .ok (.getfield 81, 3) := by decide +kernel
theorem dX12_begin_114 : decode cX12_begin 114 = .ok (.iload 5, 2) := by decide +kernel
theorem dX12_begin_116 : decode cX12_begin 116 = .ok (.iaload, 1) := by decide +kernel
theorem dX12_begin_117 : decode cX12_begin 117 = .ok (.iconst 2, 1) := by decide +kernel
theorem dX12_begin_118 : decode cX12_begin 118 = .ok (.if_icmp .ne 46, 3) := by decide +kernel
theorem dX12_begin_164 : decode cX12_begin 164 = .ok (.aload_n 0, 1) := by decide +kernel
theorem dX12_begin_165 : decode cX12_begin 165 = .ok (.getfield 81, 3) := by decide +kernel
theorem dX12_begin_168 : decode cX12_begin 168 = .ok (.iload 5, 2) := by decide +kernel
theorem dX12_begin_170 : decode cX12_begin 170 = .ok (.iaload, 1) := by decide +kernel
theorem dX12_begin_171 : decode cX12_begin 171 = .ok (.iconst 4, 1) := by decide +kernel
theorem dX12_begin_172 : decode cX12_begin 172 = .ok (.if_icmp .ne 17, 3) := by decide +kernel
theorem dX12_begin_189 : decode cX12_begin 189 = .ok (.iinc 4 1, 3) := by decide +kernel
theorem dX12_begin_192 : decode cX12_begin 192 = .ok (.goto (-109), 3) := by decide +kernel
theorem dX12_begin_195 : decode cX12_begin 195 = .ok (.aload_n 0, 1) := by decide +kernel
theorem dX12_begin_196 : decode cX12_begin 196 = .ok (.iload_n 2, 1) := by decide +kernel
theorem dX12_begin_197 : decode cX12_begin 197 = .ok (.putfield 456, 3) := by decide +kernel
theorem dX12_begin_200 : decode cX12_begin 200 = .ok (.aload_n 0, 1) := by decide +kernel
theorem dX12_begin_201 : decode cX12_begin 201 = .ok (.getfield 443, 3) := by decide +kernel
theorem dX12_begin_204 : decode cX12_begin 204 = .ok (.ifCond .eq 36, 3) := by decide +kernel
theorem dX12_begin_240 : decode cX12_begin 240 = .ok (.return_, 1) := by decide +kernel
theorem dX12_fill_0 : decode cX12_fill 0 = .ok (.aload_n 0, 1) := by decide +kernel
theorem dX12_fill_1 : decode cX12_fill 1 = .ok (.getfield 81, 3) := by decide +kernel
theorem dX12_fill_4 : decode cX12_fill 4 = .ok (.iload_n 1, 1) := by decide +kernel
theorem dX12_fill_5 : decode cX12_fill 5 = .ok (.iaload, 1) := by decide +kernel
theorem dX12_fill_6 : decode cX12_fill 6 = .ok (.iconst 1, 1) := by decide +kernel
theorem dX12_fill_7 : decode cX12_fill 7 = .ok (.if_icmp .ne 52, 3) := by decide +kernel
theorem dX12_fill_59 : decode cX12_fill 59 = .ok (.aload_n 0, 1) := by decide +kernel
theorem dX12_fill_60 : decode cX12_fill 60 = .ok (.getfield 81, 3) := by decide +kernel
theorem dX12_fill_63 : decode cX12_fill 63 = .ok (.iload_n 1, 1) := by decide +kernel
theorem dX12_fill_64 : decode cX12_fill 64 = .ok (.iaload, 1) := by decide +kernel
theorem dX12_fill_65 : decode cX12_fill 65 = .ok (.iconst 3, 1) := by decide +kernel
theorem dX12_fill_66 : decode cX12_fill 66 = .ok (.if_icmp .ne 15, 3) := by decide +kernel
theorem dX12_fill_81 : decode cX12_fill 81 = .ok (.return_, 1) := by decide +kernel
theorem dX12_fresh_0 : decode cX12_fresh 0 = .ok (.aload_n 0, 1) := by decide +kernel
theorem dX12_fresh_1 : decode cX12_fresh 1 = .ok (.iconst 0, 1) := by decide +kernel
theorem dX12_fresh_2 : decode cX12_fresh 2 = .ok (.putfield 430, 3) := by decide +kernel
theorem dX12_fresh_5 : decode cX12_fresh 5 = .ok (.aload_n 0, 1) := by decide +kernel
theorem dX12_fresh_6 : decode cX12_fresh 6 = .ok (.iconst 0, 1) := by decide +kernel
theorem dX12_fresh_7 : decode cX12_fresh 7 = .ok (.putfield 462, 3) := by decide +kernel
theorem dX12_fresh_10 : decode cX12_fresh 10 = .ok (.aload_n 0, 1) := by decide +kernel
theorem dX12_fresh_11 : decode cX12_fresh 11 = .ok (.iconst 0, 1) := by decide +kernel
theorem dX12_fresh_12 : decode cX12_fresh 12 = .ok (.putfield 443, 3) := by decide +kernel
theorem dX12_fresh_15 : decode cX12_fresh 15 = .ok (.aload_n 0, 1) := by decide +kernel
theorem dX12_fresh_16 : decode cX12_fresh 16 = .ok (.iconst 0, 1) := by decide +kernel
theorem dX12_fresh_17 : decode cX12_fresh 17 = .ok (.putfield 490, 3) := by decide +kernel
theorem dX12_fresh_20 : decode cX12_fresh 20 = .ok (.aload_n 0, 1) := by decide +kernel
theorem dX12_fresh_21 : decode cX12_fresh 21 = .ok (.iconst 0, 1) := by decide +kernel
theorem dX12_fresh_22 : decode cX12_fresh 22 = .ok (.putfield 456, 3) := by decide +kernel
theorem dX12_fresh_25 : decode cX12_fresh 25 = .ok (.return_, 1) := by decide +kernel
theorem dX12_lead_0 : decode cX12_lead 0 = .ok (.aload_n 0, 1) := by decide +kernel
theorem dX12_lead_1 : decode cX12_lead 1 = .ok (.getfield 462, 3) := by decide +kernel
theorem dX12_lead_4 : decode cX12_lead 4 = .ok (.bipush 24, 2) := by decide +kernel
theorem dX12_lead_6 : decode cX12_lead 6 = .ok (.if_icmp .ne 10, 3) := by decide +kernel
theorem dX12_lead_16 : decode cX12_lead 16 = .ok (.aload_n 0, 1) := by decide +kernel
theorem dX12_lead_17 : decode cX12_lead 17 = .ok (.dup, 1) := by decide +kernel
theorem dX12_lead_18 : decode cX12_lead 18 = .ok (.getfield 462, 3) := by decide +kernel
theorem dX12_lead_21 : decode cX12_lead 21 = .ok (.iconst 1, 1) := by decide +kernel
theorem dX12_lead_22 : decode cX12_lead 22 = .ok (.iadd, 1) := by decide +kernel
theorem dX12_lead_23 : decode cX12_lead 23 = .ok (.putfield 462, 3) := by decide +kernel
theorem dX12_lead_26 : decode cX12_lead 26 = .ok (.aload_n 0, 1) := by decide +kernel
theorem dX12_lead_27 : decode cX12_lead 27 = .ok (.getfield 462, 3) := by decide +kernel
theorem dX12_lead_30 : decode cX12_lead 30 = .ok (.istore 5, 2) := by decide +kernel
theorem dX12_lead_32 : decode cX12_lead 32 = .ok (.aload_n 0, 1) := by decide +kernel
theorem dX12_lead_33 : decode cX12_lead 33 = .ok (.getfield 162, 3) := by decide +kernel
theorem dX12_lead_36 : decode cX12_lead 36 = .ok (.iconst 3, 1) := by decide +kernel
theorem dX12_lead_37 : decode cX12_lead 37 = .ok (.iload 5, 2) := by decide +kernel
theorem dX12_lead_39 : decode cX12_lead 39 = .ok (.imul, 1) := by decide +kernel
theorem dX12_lead_40 : decode cX12_lead 40 = .ok (.iload_n 2, 1) := by decide +kernel
theorem dX12_lead_41 : decode cX12_lead 41 = .ok (.iastore, 1) := by decide +kernel
theorem dX12_lead_42 : decode cX12_lead 42 = .ok (.aload_n 0, 1) := by decide +kernel
theorem dX12_lead_43 : decode cX12_lead 43 = .ok (.getfield 162, 3) := by decide +kernel
theorem dX12_lead_46 : decode cX12_lead 46 = .ok (.iconst 3, 1) := by decide +kernel
theorem dX12_lead_47 : decode cX12_lead 47 = .ok (.iload 5, 2) := by decide +kernel
theorem dX12_lead_49 : decode cX12_lead 49 = .ok (.imul, 1) := by decide +kernel
theorem dX12_lead_50 : decode cX12_lead 50 = .ok (.iconst 1, 1) := by decide +kernel
theorem dX12_lead_51 : decode cX12_lead 51 = .ok (.iadd, 1) := by decide +kernel
theorem dX12_lead_52 : decode cX12_lead 52 = .ok (.iload_n 3, 1) := by decide +kernel
theorem dX12_lead_53 : decode cX12_lead 53 = .ok (.iastore, 1) := by decide +kernel
theorem dX12_lead_54 : decode cX12_lead 54 = .ok (.aload_n 0, 1) := by decide +kernel
theorem dX12_lead_55 : decode cX12_lead 55 = .ok (.getfield 162, 3) := by decide +kernel
theorem dX12_lead_58 : decode cX12_lead 58 = .ok (.iconst 3, 1) := by decide +kernel
theorem dX12_lead_59 : decode cX12_lead 59 = .ok (.iload 5, 2) := by decide +kernel
theorem dX12_lead_61 : decode cX12_lead 61 = .ok (.imul, 1) := by decide +kernel
theorem dX12_lead_62 : decode cX12_lead 62 = .ok (.iconst 2, 1) := by decide +kernel
theorem dX12_lead_63 : decode cX12_lead 63 = .ok (.iadd, 1) := by decide +kernel
theorem dX12_lead_64 : decode cX12_lead 64 = .ok (.iload 4, 2) := by decide +kernel
theorem dX12_lead_66 : decode cX12_lead 66 = .ok (.iastore, 1) := by decide +kernel
theorem dX12_lead_67 : decode cX12_lead 67 = .ok (.iload_n 1, 1) := by decide +kernel
theorem dX12_lead_68 : decode cX12_lead 68 = .ok (.sipush 1000, 3) := by decide +kernel
theorem dX12_lead_71 : decode cX12_lead 71 = .ok (.if_icmp .ge 7, 3) := by decide +kernel
theorem dX12_lead_74 : decode cX12_lead 74 = .ok (.iconst 1, 1) := by decide +kernel
theorem dX12_lead_75 : decode cX12_lead 75 = .ok (.goto 4, 3) := by decide +kernel
theorem dX12_lead_79 : decode cX12_lead 79 = .ok (.istore 6, 2) := by decide +kernel
theorem dX12_lead_81 : decode cX12_lead 81 = .ok (.iload 6, 2) := by decide +kernel
theorem dX12_lead_83 : decode cX12_lead 83 = .ok (.ifCond .eq 10, 3) := by decide +kernel
theorem dX12_lead_86 : decode cX12_lead 86 = .ok (.iload_n 1, 1) := by decide +kernel
theorem dX12_lead_87 : decode cX12_lead 87 = .ok (.bipush 8, 2) := by decide +kernel
theorem dX12_lead_89 : decode cX12_lead 89 = .ok (.idiv, 1) := by decide +kernel
theorem dX12_lead_90 : decode cX12_lead 90 = .ok (.goto 8, 3) := by decide +kernel
theorem dX12_lead_98 : decode cX12_lead 98 = .ok (.istore 7, 2) := by decide +kernel
theorem dX12_lead_100 : decode cX12_lead 100 = .ok (.iload 6, 2) := by decide +kernel
theorem dX12_lead_102 : decode cX12_lead 102 = .ok (.ifCond .eq 12, 3) := by decide +kernel
theorem dX12_lead_105 : decode cX12_lead 105 = .ok (.aload_n 0, 1) := by decide +kernel
theorem dX12_lead_106 : decode cX12_lead 106 = .ok (.getfield 120, 3) := by decide +kernel
theorem dX12_lead_109 : decode cX12_lead 109 = .ok (.iload_n 1, 1) := by decide +kernel
theorem dX12_lead_110 : decode cX12_lead 110 = .ok (.iaload, 1) := by decide +kernel
theorem dX12_lead_111 : decode cX12_lead 111 = .ok (.goto 32, 3) := by decide +kernel
theorem dX12_lead_143 : decode cX12_lead 143 = .ok (.istore 8, 2) := by decide +kernel
theorem dX12_lead_145 : decode cX12_lead 145 = .ok (.iload 8, 2) := by decide +kernel
theorem dX12_lead_147 : decode cX12_lead 147 = .ok (.sipush 2000, 3) := by decide +kernel
theorem dX12_lead_150 : decode cX12_lead 150 = .ok (.if_icmp .eq 26, 3) := by decide +kernel
theorem dX12_lead_176 : decode cX12_lead 176 = .ok (.iload 6, 2) := by decide +kernel
theorem dX12_lead_178 : decode cX12_lead 178 = .ok (.ifCond .eq 19, 3) := by decide +kernel
theorem dX12_lead_181 : decode cX12_lead 181 = .ok (.aload_n 0, 1) := by decide +kernel
theorem dX12_lead_182 : decode cX12_lead 182 = .ok (.getfield 108, 3) := by decide +kernel
theorem dX12_lead_185 : decode cX12_lead 185 = .ok (.iload_n 1, 1) := by decide +kernel
theorem dX12_lead_186 : decode cX12_lead 186 = .ok (.iaload, 1) := by decide +kernel
theorem dX12_lead_187 : decode cX12_lead 187 = .ok (.sipush 207, 3) := by decide +kernel
theorem dX12_lead_190 : decode cX12_lead 190 = .ok (.if_icmp .ne 7, 3) := by decide +kernel
theorem dX12_lead_197 : decode cX12_lead 197 = .ok (.iconst 0, 1) := by decide +kernel
theorem dX12_lead_198 : decode cX12_lead 198 = .ok (.istore 9, 2) := by decide +kernel
theorem dX12_lead_200 : decode cX12_lead 200 = .ok (.iconst 0, 1) := by decide +kernel
theorem dX12_lead_201 : decode cX12_lead 201 = .ok (.istore 10, 2) := by decide +kernel
theorem dX12_lead_203 : decode cX12_lead 203 = .ok (.iload 10, 2) := by decide +kernel
theorem dX12_lead_205 : decode cX12_lead 205 = .ok (.aload_n 0, 1) := by decide +kernel
theorem dX12_lead_206 : decode cX12_lead 206 = .ok (.getfield 78, 3) := by decide +kernel
theorem dX12_lead_209 : decode cX12_lead 209 = .ok (.iload 7, 2) := by decide +kernel
theorem dX12_lead_211 : decode cX12_lead 211 = .ok (.iaload, 1) := by decide +kernel
theorem dX12_lead_212 : decode cX12_lead 212 = .ok (.if_icmp .ge 35, 3) := by decide +kernel
theorem dX12_lead_215 : decode cX12_lead 215 = .ok (.aload_n 0, 1) := by decide +kernel
theorem dX12_lead_216 : decode cX12_lead 216 = .ok (.getfield 443, 3) := by decide +kernel
theorem dX12_lead_219 : decode cX12_lead 219 = .ok (.ifCond .ne 28, 3) := by decide +kernel
theorem dX12_lead_222 : decode cX12_lead 222 = .ok (.iload 9, 2) := by decide +kernel
theorem dX12_lead_224 : decode cX12_lead 224 = .ok (.ifCond .ne 23, 3) := by decide +kernel
theorem dX12_lead_227 : decode cX12_lead 227 = .ok (.aload_n 0, 1) := by decide +kernel
theorem dX12_lead_228 : decode cX12_lead 228 = .ok (.bipush 8, 2) := by decide +kernel
theorem dX12_lead_230 : decode cX12_lead 230 = .ok (.iload 7, 2) := by decide +kernel
theorem dX12_lead_232 : decode cX12_lead 232 = .ok (.imul, 1) := by decide +kernel
theorem dX12_lead_233 : decode cX12_lead 233 = .ok (.iload 10, 2) := by decide +kernel
theorem dX12_lead_235 : decode cX12_lead 235 = .ok (.iadd, 1) := by decide +kernel
theorem dX12_lead_236 : decode cX12_lead 236 = .ok (.iload 5, 2) := by decide +kernel
theorem dX12_lead_238 : decode cX12_lead 238 = .ok (.invokevirtual 501, 3) := by decide +kernel
theorem dX12_lead_241 : decode cX12_lead 241 = .ok (.iinc 10 1, 3) := by decide +kernel
theorem dX12_lead_244 : decode cX12_lead 244 = .ok (.goto (-41), 3) := by decide +kernel
theorem dX12_lead_247 : decode cX12_lead 247 = .ok (.aload_n 0, 1) := by decide +kernel
theorem dX12_lead_248 : decode cX12_lead 248 = .ok (.getfield 443, 3) := by decide +kernel
theorem dX12_lead_251 : decode cX12_lead 251 = .ok (.ifCond .ne 22, 3) := by decide +kernel
theorem dX12_lead_254 : decode cX12_lead 254 = .ok (.iload 6, 2) := by decide +kernel
theorem dX12_lead_256 : decode cX12_lead 256 = .ok (.ifCond .eq 17, 3) := by decide +kernel
theorem dX12_lead_259 : decode cX12_lead 259 = .ok (.aload_n 0, 1) := by decide +kernel
theorem dX12_lead_260 : decode cX12_lead 260 = .ok (.aload_n 0, 1) := by decide +kernel
theorem dX12_lead_261 : decode cX12_lead 261 = .ok (.getfield 96, 3) := by decide +kernel
theorem dX12_lead_264 : decode cX12_lead 264 = .ok (.iload_n 1, 1) := by decide +kernel
theorem dX12_lead_265 : decode cX12_lead 265 = .ok (.iaload, 1) := by decide +kernel
theorem dX12_lead_266 : decode cX12_lead 266 = .ok (.iload 5, 2) := by decide +kernel
theorem dX12_lead_268 : decode cX12_lead 268 = .ok (.invokevirtual 471, 3) := by decide +kernel
theorem dX12_make_0 : decode cX12_make 0 = .ok (.aload_n 0, 1) := by decide +kernel
theorem dX12_make_1 : decode cX12_make 1 = .ok (.iconst 0, 1) := by decide +kernel
theorem dX12_make_2 : decode cX12_make 2 = .ok (.putfield 177, 3) := by decide +kernel
theorem dX12_make_5 : decode cX12_make 5 = .ok (.iload_n 1, 1) := by decide +kernel
theorem dX12_make_6 : decode cX12_make 6 = .ok (.ifCond .lt 16, 3) := by decide +kernel
theorem dX12_make_9 : decode cX12_make 9 = .ok (.iload_n 1, 1) := by decide +kernel
theorem dX12_make_10 : decode cX12_make 10 = .ok (.aload_n 0, 1) := by decide +kernel
theorem dX12_make_11 : decode cX12_make 11 = .ok (.getfield 59, 3) := by decide +kernel
theorem dX12_make_14 : decode cX12_make 14 = .ok (.aload_n 0, 1) := by decide +kernel
theorem dX12_make_15 : decode cX12_make 15 = .ok (.getfield 414, 3) := by decide +kernel
theorem dX12_make_18 : decode cX12_make 18 = .ok (.iaload, 1) := by decide +kernel
theorem dX12_make_19 : decode cX12_make 19 = .ok (.if_icmp .lt 5, 3) := by decide +kernel
theorem dX12_make_24 : decode cX12_make 24 = .ok (.iload_n 2, 1) := by decide +kernel
theorem dX12_make_25 : decode cX12_make 25 = .ok (.ifCond .lt 8, 3) := by decide +kernel
theorem dX12_make_28 : decode cX12_make 28 = .ok (.iload_n 2, 1) := by decide +kernel
theorem dX12_make_29 : decode cX12_make 29 = .ok (.iconst 3, 1) := by decide +kernel
theorem dX12_make_30 : decode cX12_make 30 = .ok (.if_icmp .le 6, 3) := by decide +kernel
theorem dX12_make_36 : decode cX12_make 36 = .ok (.aload_n 0, 1) := by decide +kernel
theorem dX12_make_37 : decode cX12_make 37 = .ok (.bipush 8, 2) := by decide +kernel
theorem dX12_make_39 : decode cX12_make 39 = .ok (.aload_n 0, 1) := by decide +kernel
theorem dX12_make_40 : decode cX12_make 40 = .ok (.getfield 414, 3) := by decide +kernel
theorem dX12_make_43 : decode cX12_make 43 = .ok (.imul, 1) := by decide +kernel
theorem dX12_make_44 : decode cX12_make 44 = .ok (.iload_n 1, 1) := by decide +kernel
theorem dX12_make_45 : decode cX12_make 45 = .ok (.iadd, 1) := by decide +kernel
theorem dX12_make_46 : decode cX12_make 46 = .ok (.iload_n 2, 1) := by decide +kernel
theorem dX12_make_47 : decode cX12_make 47 = .ok (.invokevirtual 369, 3) := by decide +kernel
theorem dX12_make_50 : decode cX12_make 50 = .ok (.istore 6, 2) := by decide +kernel
theorem dX12_make_52 : decode cX12_make 52 = .ok (.iload 6, 2) := by decide +kernel
theorem dX12_make_54 : decode cX12_make 54 = .ok (.iconst (-1), 1) := by decide +kernel
theorem dX12_make_55 : decode cX12_make 55 = .ok (.if_icmp .ne 5, 3) := by decide +kernel
theorem dX12_make_60 : decode cX12_make 60 = .ok (.aload_n 0, 1) := by decide +kernel
theorem dX12_make_61 : decode cX12_make 61 = .ok (.invokevirtual 504, 3) := by decide +kernel
theorem dX12_make_64 : decode cX12_make 64 = .ok (.aload_n 0, 1) := by decide +kernel
theorem dX12_make_65 : decode cX12_make 65 = .ok (.aload_n 0, 1) := by decide +kernel
theorem dX12_make_66 : decode cX12_make 66 = .ok (.bipush 8, 2) := by decide +kernel
theorem dX12_make_68 : decode cX12_make 68 = .ok (.aload_n 0, 1) := by decide +kernel
theorem dX12_make_69 : decode cX12_make 69 = .ok (.getfield 414, 3) := by decide +kernel
theorem dX12_make_72 : decode cX12_make 72 = .ok (.imul, 1) := by decide +kernel
theorem dX12_make_73 : decode cX12_make 73 = .ok (.iload_n 1, 1) := by decide +kernel
theorem dX12_make_74 : decode cX12_make 74 = .ok (.iadd, 1) := by decide +kernel
theorem dX12_make_75 : decode cX12_make 75 = .ok (.iload 6, 2) := by decide +kernel
theorem dX12_make_77 : decode cX12_make 77 = .ok (.iload_n 3, 1) := by decide +kernel
theorem dX12_make_78 : decode cX12_make 78 = .ok (.iload 4, 2) := by decide +kernel
theorem dX12_make_80 : decode cX12_make 80 = .ok (.iload 5, 2) := by decide +kernel
theorem dX12_make_82 : decode cX12_make 82 = .ok (.invokevirtual 486, 3) := by decide +kernel
theorem dX12_makerOf_0 : decode cX12_makerOf 0 = .ok (.iconst 0, 1) := by decide +kernel
theorem dX12_makerOf_1 : decode cX12_makerOf 1 = .ok (.istore_n 3, 1) := by decide +kernel
theorem dX12_makerOf_2 : decode cX12_makerOf 2 = .ok (.iload_n 3, 1) := by decide +kernel
theorem dX12_makerOf_3 : decode cX12_makerOf 3 = .ok (.aload_n 0, 1) := by decide +kernel
theorem dX12_makerOf_4 : decode cX12_makerOf 4 = .ok (.getfield 78, 3) := by decide +kernel
theorem dX12_makerOf_7 : decode cX12_makerOf 7 = .ok (.iload_n 1, 1) := by decide +kernel
theorem dX12_makerOf_8 : decode cX12_makerOf 8 = .ok (.iaload, 1) := by decide +kernel
theorem dX12_makerOf_9 : decode cX12_makerOf 9 = .ok (.if_icmp .ge 46, 3) := by decide +kernel
theorem dX12_makerOf_12 : decode cX12_makerOf 12 = .ok (.aload_n 0, 1) := by decide +kernel
theorem dX12_makerOf_13 : decode cX12_makerOf 13 = .ok (.getfield 81, 3) := by decide +kernel
theorem dX12_makerOf_16 : decode cX12_makerOf 16 = .ok (.bipush 8, 2) := by decide +kernel
theorem dX12_makerOf_18 : decode cX12_makerOf 18 = .ok (.iload_n 1, 1) := by decide +kernel
theorem dX12_makerOf_19 : decode cX12_makerOf 19 = .ok (.imul, 1) := by decide +kernel
theorem dX12_makerOf_20 : decode cX12_makerOf 20 = .ok (.iload_n 3, 1) := by decide +kernel
theorem dX12_makerOf_21 : decode cX12_makerOf 21 = .ok (.iadd, 1) := by decide +kernel
theorem dX12_makerOf_22 : decode cX12_makerOf 22 = .ok (.iaload, 1) := by decide +kernel
theorem dX12_makerOf_23 : decode cX12_makerOf 23 = .ok (.iconst 5, 1) := by decide +kernel
theorem dX12_makerOf_24 : decode cX12_makerOf 24 = .ok (.if_icmp .ne 25, 3) := by decide +kernel
theorem dX12_makerOf_27 : decode cX12_makerOf 27 = .ok (.aload_n 0, 1) := by decide +kernel
theorem dX12_makerOf_28 : decode cX12_makerOf 28 = .ok (.getfield 99, 3) := by decide +kernel
theorem dX12_makerOf_31 : decode cX12_makerOf 31 = .ok (.bipush 8, 2) := by decide +kernel
theorem dX12_makerOf_33 : decode cX12_makerOf 33 = .ok (.iload_n 1, 1) := by decide +kernel
theorem dX12_makerOf_34 : decode cX12_makerOf 34 = .ok (.imul, 1) := by decide +kernel
theorem dX12_makerOf_35 : decode cX12_makerOf 35 = .ok (.iload_n 3, 1) := by decide +kernel
theorem dX12_makerOf_36 : decode cX12_makerOf 36 = .ok (.iadd, 1) := by decide +kernel
theorem dX12_makerOf_37 : decode cX12_makerOf 37 = .ok (.iaload, 1) := by decide +kernel
theorem dX12_makerOf_38 : decode cX12_makerOf 38 = .ok (.iload_n 2, 1) := by decide +kernel
theorem dX12_makerOf_39 : decode cX12_makerOf 39 = .ok (.if_icmp .ne 10, 3) := by decide +kernel
theorem dX12_makerOf_42 : decode cX12_makerOf 42 = .ok (.bipush 8, 2) := by decide +kernel
theorem dX12_makerOf_44 : decode cX12_makerOf 44 = .ok (.iload_n 1, 1) := by decide +kernel
theorem dX12_makerOf_45 : decode cX12_makerOf 45 = .ok (.imul, 1) := by decide +kernel
theorem dX12_makerOf_46 : decode cX12_makerOf 46 = .ok (.iload_n 3, 1) := by decide +kernel
theorem dX12_makerOf_47 : decode cX12_makerOf 47 = .ok (.iadd, 1) := by decide +kernel
theorem dX12_makerOf_48 : decode cX12_makerOf 48 = .ok (.ireturn, 1) := by decide +kernel
theorem dX12_makerOf_49 : decode cX12_makerOf 49 = .ok (.iinc 3 1, 3) := by decide +kernel
theorem dX12_makerOf_52 : decode cX12_makerOf 52 = .ok (.goto (-50), 3) := by decide +kernel
theorem dX12_makes_0 : decode cX12_makes 0 = .ok (.aload_n 0, 1) := by decide +kernel
theorem dX12_makes_1 : decode cX12_makes 1 = .ok (.invokevirtual 465, 3) := by decide +kernel
theorem dX12_makes_4 : decode cX12_makes 4 = .ok (.ifCond .ne 5, 3) := by decide +kernel
theorem dX12_makes_9 : decode cX12_makes 9 = .ok (.aload_n 0, 1) := by decide +kernel
theorem dX12_makes_10 : decode cX12_makes 10 = .ok (.iload_n 1, 1) := by decide +kernel
theorem dX12_makes_11 : decode cX12_makes 11 = .ok (.invokevirtual 459, 3) := by decide +kernel
theorem dX12_makes_14 : decode cX12_makes 14 = .ok (.aload_n 0, 1) := by decide +kernel
theorem dX12_makes_15 : decode cX12_makes 15 = .ok (.getfield 443, 3) := by decide +kernel
theorem dX12_makes_18 : decode cX12_makes 18 = .ok (.ifCond .eq 5, 3) := by decide +kernel
theorem dX12_makes_23 : decode cX12_makes 23 = .ok (.aload_n 0, 1) := by decide +kernel
theorem dX12_makes_24 : decode cX12_makes 24 = .ok (.getfield 490, 3) := by decide +kernel
theorem dX12_makes_27 : decode cX12_makes 27 = .ok (.istore 6, 2) := by decide +kernel
theorem dX12_makes_29 : decode cX12_makes 29 = .ok (.aload_n 0, 1) := by decide +kernel
theorem dX12_makes_30 : decode cX12_makes 30 = .ok (.dup, 1) := by decide +kernel
theorem dX12_makes_31 : decode cX12_makes 31 = .ok (.getfield 490, 3) := by decide +kernel
theorem dX12_makes_34 : decode cX12_makes 34 = .ok (.iconst 1, 1) := by decide +kernel
theorem dX12_makes_35 : decode cX12_makes 35 = .ok (.iadd, 1) := by decide +kernel
theorem dX12_makes_36 : decode cX12_makes 36 = .ok (.putfield 490, 3) := by decide +kernel
theorem dX12_makes_39 : decode cX12_makes 39 = .ok (.aload_n 0, 1) := by decide +kernel
theorem dX12_makes_40 : decode cX12_makes 40 = .ok (.getfield 165, 3) := by decide +kernel
theorem dX12_makes_43 : decode cX12_makes 43 = .ok (.iload 6, 2) := by decide +kernel
theorem dX12_makes_45 : decode cX12_makes 45 = .ok (.iload_n 1, 1) := by decide +kernel
theorem dX12_makes_46 : decode cX12_makes 46 = .ok (.iastore, 1) := by decide +kernel
theorem dX12_makes_47 : decode cX12_makes 47 = .ok (.iconst 0, 1) := by decide +kernel
theorem dX12_makes_48 : decode cX12_makes 48 = .ok (.istore 7, 2) := by decide +kernel
theorem dX12_makes_50 : decode cX12_makes 50 = .ok (.iload 7, 2) := by decide +kernel
theorem dX12_makes_52 : decode cX12_makes 52 = .ok (.bipush 64, 2) := by decide +kernel
theorem dX12_makes_54 : decode cX12_makes 54 = .ok (.if_icmp .ge 23, 3) := by decide +kernel
theorem dX12_makes_57 : decode cX12_makes 57 = .ok (.aload_n 0, 1) := by decide +kernel
theorem dX12_makes_58 : decode cX12_makes 58 = .ok (.getfield 168, 3) := by decide +kernel
theorem dX12_makes_61 : decode cX12_makes 61 = .ok (.bipush 64, 2) := by decide +kernel
theorem dX12_makes_63 : decode cX12_makes 63 = .ok (.iload 6, 2) := by decide +kernel
theorem dX12_makes_65 : decode cX12_makes 65 = .ok (.imul, 1) := by decide +kernel
theorem dX12_makes_66 : decode cX12_makes 66 = .ok (.iload 7, 2) := by decide +kernel
theorem dX12_makes_68 : decode cX12_makes 68 = .ok (.iadd, 1) := by decide +kernel
theorem dX12_makes_69 : decode cX12_makes 69 = .ok (.iconst 0, 1) := by decide +kernel
theorem dX12_makes_70 : decode cX12_makes 70 = .ok (.iastore, 1) := by decide +kernel
theorem dX12_makes_71 : decode cX12_makes 71 = .ok (.iinc 7 1, 3) := by decide +kernel
theorem dX12_makes_74 : decode cX12_makes 74 = .ok (.goto (-24), 3) := by decide +kernel
theorem dX12_makes_77 : decode cX12_makes 77 = .ok (.aload_n 0, 1) := by decide +kernel
theorem dX12_makes_78 : decode cX12_makes 78 = .ok (.iload 6, 2) := by decide +kernel
theorem dX12_makes_80 : decode cX12_makes 80 = .ok (.putfield 456, 3) := by decide +kernel
theorem dX12_makes_83 : decode cX12_makes 83 = .ok (.aload_n 0, 1) := by decide +kernel
theorem dX12_makes_84 : decode cX12_makes 84 = .ok (.iload_n 2, 1) := by decide +kernel
theorem dX12_makes_85 : decode cX12_makes 85 = .ok (.iload_n 3, 1) := by decide +kernel
theorem dX12_makes_86 : decode cX12_makes 86 = .ok (.iload 4, 2) := by decide +kernel
theorem dX12_makes_88 : decode cX12_makes 88 = .ok (.iload 5, 2) := by decide +kernel
theorem dX12_makes_90 : decode cX12_makes 90 = .ok (.invokevirtual 493, 3) := by decide +kernel
theorem dX12_run_173 : decode cX12_run 173 = .ok (.aload_n 0, 1) := by decide +kernel
theorem dX12_run_174 : decode cX12_run 174 = .ok (.aload_n 0, 1) := by decide +kernel
theorem dX12_run_175 : decode cX12_run 175 = .ok (.getfield 129, 3) := by decide +kernel
theorem dX12_run_178 : decode cX12_run 178 = .ok (.iload_n 1, 1) := by decide +kernel
theorem dX12_run_179 : decode cX12_run 179 = .ok (.iaload, 1) := by decide +kernel
theorem dX12_run_180 : decode cX12_run 180 = .ok (.iload_n 2, 1) := by decide +kernel
theorem dX12_run_181 : decode cX12_run 181 = .ok (.invokevirtual 453, 3) := by decide +kernel
/-- what make() reads besides: TYPE 8 has the act 64 and the maker 65, whose one statement is mark f(); -/
def Mk (kf af : Nat → Int32) (nf : Nat → Int64) (tm mkf mbf ym mpf tuf mtf mlf : Nat → Int32) (nm : Int64) (mb ms mx : Nat) : Prop :=
  ym 1 = 1 ∧ tm 8 = 2 ∧ mkf 64 = 6 ∧ mkf 65 = 5 ∧ mpf 65 = 0 ∧ tuf 8 = -1 ∧ mtf 65 = 2000 ∧ mlf 65 = 0 ∧ mbf 65 = nI mb ∧ mb < 3400 ∧ af mb = nI ms ∧ 0 < ms ∧ ms < 3400 ∧ kf ms = 12 ∧ af ms = nI mx ∧ mx < 3400 ∧ kf mx = 3 ∧ nf mx = nm

set_option maxHeartbeats 4000000 in
set_option maxRecDepth 100000 in
theorem d_makerOf (l : Launch) (D : va_G) (cy : Nat → ClassId) (sz : Nat) (hm : Nat) (ma : Nat → Nat) (fv : Nat → Value) (kf : Nat → Int32) (af : Nat → Int32) (nf : Nat → Int64) (tm : Nat → Int32) (mkf : Nat → Int32) (mnf : Nat → Int64) (mbf : Nat → Int32) (ttf : Nat → Int32) (kn : Nat → Nat) (nn : Nat) (se : Nat) (tt : Nat) (bb : Nat) (ss : Nat) (nm : Int64) (st : Nat) (dp : Nat) (rv : Int32) (cd : Int32) (md : Int32) (hf : Int32) (mb : Nat) (ms : Nat) (mx : Nat) (ym : Nat → Int32) (mpf : Nat → Int32) (tsf : Nat → Int32) (tuf : Nat → Int32) (mtf : Nat → Int32) (mlf : Nat → Int32) (ccf : Nat → Int32) (prf : Nat → Int32) (hk : Mk kf af nf tm mkf mbf ym mpf tuf mtf mlf nm mb ms mx) : Met l yX12_makerOf (.code yX12_makerOf cX12_makerOf 4 (some .int) :: TB) ({ frames := 0, cells := 0, slots := 0, locals := 0 }) (va_Pc [.ref hm, .int 8, .int 0] (fun U => U.heap.size = sz ∧ va_P D vwCl [(hm, .inr (12, [.int cd, .ref (ma 1), (fv 2), (fv 3), .ref (ma 4), (fv 5), (fv 6), (fv 7), (fv 8), (fv 9), (fv 10), (fv 11), (fv 12), (fv 13), (fv 14), .int hf, (fv 16), .ref (ma 17), .ref (ma 18), .ref (ma 19), .ref (ma 20), .ref (ma 21), .ref (ma 22), .ref (ma 23), .ref (ma 24), .ref (ma 25), .ref (ma 26), .ref (ma 27), .ref (ma 28), .ref (ma 29), .ref (ma 30), .ref (ma 31), .ref (ma 32), .ref (ma 33), .ref (ma 34), .ref (ma 35), .ref (ma 36), .ref (ma 37), .ref (ma 38), .ref (ma 39), .ref (ma 40), .ref (ma 41), .ref (ma 42), .ref (ma 43), .ref (ma 44), .ref (ma 45), .ref (ma 46), .ref (ma 47), .ref (ma 48), (fv 49), (fv 50), (fv 51), (fv 52), (fv 53), (fv 54), (fv 55), (fv 56), (fv 57), (fv 58), .ref (ma 59), .ref (ma 60), (fv 61), (fv 62), .int (nI st), .int (nI dp), .int 0, .int rv, .ref (ma 67), .ref (ma 68), .ref (ma 69), .int md, (fv 71), .int (nI se), .ref (ma 73)])), ((ma 39), .inl (cy 1, 3400, .inl kf)), ((ma 40), .inl (cy 1, 3400, .inl af)), ((ma 46), .inl (cy 2, 3400, .inr (.inl nf))), ((ma 23), .inl (cy 1, 16, .inl tm)), ((ma 24), .inl (cy 1, 128, .inl mkf)), ((ma 25), .inl (cy 2, 128, .inr (.inl mnf))), ((ma 29), .inl (cy 1, 128, .inl mbf)), ((ma 68), .inl (cy 1, 210, .inl ttf)), ((ma 17), .inl (cy 1, 2, .inl ym)), ((ma 30), .inl (cy 1, 128, .inl mpf)), ((ma 59), .inl (cy 1, 16, .inl tsf)), ((ma 22), .inl (cy 1, 16, .inl tuf)), ((ma 37), .inl (cy 1, 128, .inl mtf)), ((ma 33), .inl (cy 1, 128, .inl mlf)), ((ma 69), .inl (cy 1, 13440, .inl ccf)), ((ma 67), .inl (cy 1, 78, .inl prf))] U.heap ∧ va_K D vwCl (TY cy) U ∧ va_D (fun _ => True) [(hm, .inr (12, [.int cd, .ref (ma 1), (fv 2), (fv 3), .ref (ma 4), (fv 5), (fv 6), (fv 7), (fv 8), (fv 9), (fv 10), (fv 11), (fv 12), (fv 13), (fv 14), .int hf, (fv 16), .ref (ma 17), .ref (ma 18), .ref (ma 19), .ref (ma 20), .ref (ma 21), .ref (ma 22), .ref (ma 23), .ref (ma 24), .ref (ma 25), .ref (ma 26), .ref (ma 27), .ref (ma 28), .ref (ma 29), .ref (ma 30), .ref (ma 31), .ref (ma 32), .ref (ma 33), .ref (ma 34), .ref (ma 35), .ref (ma 36), .ref (ma 37), .ref (ma 38), .ref (ma 39), .ref (ma 40), .ref (ma 41), .ref (ma 42), .ref (ma 43), .ref (ma 44), .ref (ma 45), .ref (ma 46), .ref (ma 47), .ref (ma 48), (fv 49), (fv 50), (fv 51), (fv 52), (fv 53), (fv 54), (fv 55), (fv 56), (fv 57), (fv 58), .ref (ma 59), .ref (ma 60), (fv 61), (fv 62), .int (nI st), .int (nI dp), .int 0, .int rv, .ref (ma 67), .ref (ma 68), .ref (ma 69), .int md, (fv 71), .int (nI se), .ref (ma 73)])), ((ma 39), .inl (cy 1, 3400, .inl kf)), ((ma 40), .inl (cy 1, 3400, .inl af)), ((ma 46), .inl (cy 2, 3400, .inr (.inl nf))), ((ma 23), .inl (cy 1, 16, .inl tm)), ((ma 24), .inl (cy 1, 128, .inl mkf)), ((ma 25), .inl (cy 2, 128, .inr (.inl mnf))), ((ma 29), .inl (cy 1, 128, .inl mbf)), ((ma 68), .inl (cy 1, 210, .inl ttf)), ((ma 17), .inl (cy 1, 2, .inl ym)), ((ma 30), .inl (cy 1, 128, .inl mpf)), ((ma 59), .inl (cy 1, 16, .inl tsf)), ((ma 22), .inl (cy 1, 16, .inl tuf)), ((ma 37), .inl (cy 1, 128, .inl mtf)), ((ma 33), .inl (cy 1, 128, .inl mlf)), ((ma 69), .inl (cy 1, 13440, .inl ccf)), ((ma 67), .inl (cy 1, 78, .inl prf))])) (va_Qi (fun (r : Int32) (u : Unit) => r = 65) (fun (u : Unit) t => va_P D vwCl [(hm, .inr (12, [.int cd, .ref (ma 1), (fv 2), (fv 3), .ref (ma 4), (fv 5), (fv 6), (fv 7), (fv 8), (fv 9), (fv 10), (fv 11), (fv 12), (fv 13), (fv 14), .int hf, (fv 16), .ref (ma 17), .ref (ma 18), .ref (ma 19), .ref (ma 20), .ref (ma 21), .ref (ma 22), .ref (ma 23), .ref (ma 24), .ref (ma 25), .ref (ma 26), .ref (ma 27), .ref (ma 28), .ref (ma 29), .ref (ma 30), .ref (ma 31), .ref (ma 32), .ref (ma 33), .ref (ma 34), .ref (ma 35), .ref (ma 36), .ref (ma 37), .ref (ma 38), .ref (ma 39), .ref (ma 40), .ref (ma 41), .ref (ma 42), .ref (ma 43), .ref (ma 44), .ref (ma 45), .ref (ma 46), .ref (ma 47), .ref (ma 48), (fv 49), (fv 50), (fv 51), (fv 52), (fv 53), (fv 54), (fv 55), (fv 56), (fv 57), (fv 58), .ref (ma 59), .ref (ma 60), (fv 61), (fv 62), .int (nI st), .int (nI dp), .int 0, .int rv, .ref (ma 67), .ref (ma 68), .ref (ma 69), .int md, (fv 71), .int (nI se), .ref (ma 73)])), ((ma 39), .inl (cy 1, 3400, .inl kf)), ((ma 40), .inl (cy 1, 3400, .inl af)), ((ma 46), .inl (cy 2, 3400, .inr (.inl nf))), ((ma 23), .inl (cy 1, 16, .inl tm)), ((ma 24), .inl (cy 1, 128, .inl mkf)), ((ma 25), .inl (cy 2, 128, .inr (.inl mnf))), ((ma 29), .inl (cy 1, 128, .inl mbf)), ((ma 68), .inl (cy 1, 210, .inl ttf)), ((ma 17), .inl (cy 1, 2, .inl ym)), ((ma 30), .inl (cy 1, 128, .inl mpf)), ((ma 59), .inl (cy 1, 16, .inl tsf)), ((ma 22), .inl (cy 1, 16, .inl tuf)), ((ma 37), .inl (cy 1, 128, .inl mtf)), ((ma 33), .inl (cy 1, 128, .inl mlf)), ((ma 69), .inl (cy 1, 13440, .inl ccf)), ((ma 67), .inl (cy 1, 78, .inl prf))] t.heap ∧ va_D (va_A [(hm, .inr (12, [.int cd, .ref (ma 1), (fv 2), (fv 3), .ref (ma 4), (fv 5), (fv 6), (fv 7), (fv 8), (fv 9), (fv 10), (fv 11), (fv 12), (fv 13), (fv 14), .int hf, (fv 16), .ref (ma 17), .ref (ma 18), .ref (ma 19), .ref (ma 20), .ref (ma 21), .ref (ma 22), .ref (ma 23), .ref (ma 24), .ref (ma 25), .ref (ma 26), .ref (ma 27), .ref (ma 28), .ref (ma 29), .ref (ma 30), .ref (ma 31), .ref (ma 32), .ref (ma 33), .ref (ma 34), .ref (ma 35), .ref (ma 36), .ref (ma 37), .ref (ma 38), .ref (ma 39), .ref (ma 40), .ref (ma 41), .ref (ma 42), .ref (ma 43), .ref (ma 44), .ref (ma 45), .ref (ma 46), .ref (ma 47), .ref (ma 48), (fv 49), (fv 50), (fv 51), (fv 52), (fv 53), (fv 54), (fv 55), (fv 56), (fv 57), (fv 58), .ref (ma 59), .ref (ma 60), (fv 61), (fv 62), .int (nI st), .int (nI dp), .int 0, .int rv, .ref (ma 67), .ref (ma 68), .ref (ma 69), .int md, (fv 71), .int (nI se), .ref (ma 73)])), ((ma 39), .inl (cy 1, 3400, .inl kf)), ((ma 40), .inl (cy 1, 3400, .inl af)), ((ma 46), .inl (cy 2, 3400, .inr (.inl nf))), ((ma 23), .inl (cy 1, 16, .inl tm)), ((ma 24), .inl (cy 1, 128, .inl mkf)), ((ma 25), .inl (cy 2, 128, .inr (.inl mnf))), ((ma 29), .inl (cy 1, 128, .inl mbf)), ((ma 68), .inl (cy 1, 210, .inl ttf)), ((ma 17), .inl (cy 1, 2, .inl ym)), ((ma 30), .inl (cy 1, 128, .inl mpf)), ((ma 59), .inl (cy 1, 16, .inl tsf)), ((ma 22), .inl (cy 1, 16, .inl tuf)), ((ma 37), .inl (cy 1, 128, .inl mtf)), ((ma 33), .inl (cy 1, 128, .inl mlf)), ((ma 69), .inl (cy 1, 13440, .inl ccf)), ((ma 67), .inl (cy 1, 78, .inl prf))] sz) [(hm, .inr (12, [.int cd, .ref (ma 1), (fv 2), (fv 3), .ref (ma 4), (fv 5), (fv 6), (fv 7), (fv 8), (fv 9), (fv 10), (fv 11), (fv 12), (fv 13), (fv 14), .int hf, (fv 16), .ref (ma 17), .ref (ma 18), .ref (ma 19), .ref (ma 20), .ref (ma 21), .ref (ma 22), .ref (ma 23), .ref (ma 24), .ref (ma 25), .ref (ma 26), .ref (ma 27), .ref (ma 28), .ref (ma 29), .ref (ma 30), .ref (ma 31), .ref (ma 32), .ref (ma 33), .ref (ma 34), .ref (ma 35), .ref (ma 36), .ref (ma 37), .ref (ma 38), .ref (ma 39), .ref (ma 40), .ref (ma 41), .ref (ma 42), .ref (ma 43), .ref (ma 44), .ref (ma 45), .ref (ma 46), .ref (ma 47), .ref (ma 48), (fv 49), (fv 50), (fv 51), (fv 52), (fv 53), (fv 54), (fv 55), (fv 56), (fv 57), (fv 58), .ref (ma 59), .ref (ma 60), (fv 61), (fv 62), .int (nI st), .int (nI dp), .int 0, .int rv, .ref (ma 67), .ref (ma 68), .ref (ma 69), .int md, (fv 71), .int (nI se), .ref (ma 73)])), ((ma 39), .inl (cy 1, 3400, .inl kf)), ((ma 40), .inl (cy 1, 3400, .inl af)), ((ma 46), .inl (cy 2, 3400, .inr (.inl nf))), ((ma 23), .inl (cy 1, 16, .inl tm)), ((ma 24), .inl (cy 1, 128, .inl mkf)), ((ma 25), .inl (cy 2, 128, .inr (.inl mnf))), ((ma 29), .inl (cy 1, 128, .inl mbf)), ((ma 68), .inl (cy 1, 210, .inl ttf)), ((ma 17), .inl (cy 1, 2, .inl ym)), ((ma 30), .inl (cy 1, 128, .inl mpf)), ((ma 59), .inl (cy 1, 16, .inl tsf)), ((ma 22), .inl (cy 1, 16, .inl tuf)), ((ma 37), .inl (cy 1, 128, .inl mtf)), ((ma 33), .inl (cy 1, 128, .inl mlf)), ((ma 69), .inl (cy 1, 13440, .inl ccf)), ((ma 67), .inl (cy 1, 78, .inl prf))]) (va_A [(hm, .inr (12, [.int cd, .ref (ma 1), (fv 2), (fv 3), .ref (ma 4), (fv 5), (fv 6), (fv 7), (fv 8), (fv 9), (fv 10), (fv 11), (fv 12), (fv 13), (fv 14), .int hf, (fv 16), .ref (ma 17), .ref (ma 18), .ref (ma 19), .ref (ma 20), .ref (ma 21), .ref (ma 22), .ref (ma 23), .ref (ma 24), .ref (ma 25), .ref (ma 26), .ref (ma 27), .ref (ma 28), .ref (ma 29), .ref (ma 30), .ref (ma 31), .ref (ma 32), .ref (ma 33), .ref (ma 34), .ref (ma 35), .ref (ma 36), .ref (ma 37), .ref (ma 38), .ref (ma 39), .ref (ma 40), .ref (ma 41), .ref (ma 42), .ref (ma 43), .ref (ma 44), .ref (ma 45), .ref (ma 46), .ref (ma 47), .ref (ma 48), (fv 49), (fv 50), (fv 51), (fv 52), (fv 53), (fv 54), (fv 55), (fv 56), (fv 57), (fv 58), .ref (ma 59), .ref (ma 60), (fv 61), (fv 62), .int (nI st), .int (nI dp), .int 0, .int rv, .ref (ma 67), .ref (ma 68), .ref (ma 69), .int md, (fv 71), .int (nI se), .ref (ma 73)])), ((ma 39), .inl (cy 1, 3400, .inl kf)), ((ma 40), .inl (cy 1, 3400, .inl af)), ((ma 46), .inl (cy 2, 3400, .inr (.inl nf))), ((ma 23), .inl (cy 1, 16, .inl tm)), ((ma 24), .inl (cy 1, 128, .inl mkf)), ((ma 25), .inl (cy 2, 128, .inr (.inl mnf))), ((ma 29), .inl (cy 1, 128, .inl mbf)), ((ma 68), .inl (cy 1, 210, .inl ttf)), ((ma 17), .inl (cy 1, 2, .inl ym)), ((ma 30), .inl (cy 1, 128, .inl mpf)), ((ma 59), .inl (cy 1, 16, .inl tsf)), ((ma 22), .inl (cy 1, 16, .inl tuf)), ((ma 37), .inl (cy 1, 128, .inl mtf)), ((ma 33), .inl (cy 1, 128, .inl mlf)), ((ma 69), .inl (cy 1, 13440, .inl ccf)), ((ma 67), .inl (cy 1, 78, .inl prf))] sz)) 0 0 (va_A [(hm, .inr (12, [.int cd, .ref (ma 1), (fv 2), (fv 3), .ref (ma 4), (fv 5), (fv 6), (fv 7), (fv 8), (fv 9), (fv 10), (fv 11), (fv 12), (fv 13), (fv 14), .int hf, (fv 16), .ref (ma 17), .ref (ma 18), .ref (ma 19), .ref (ma 20), .ref (ma 21), .ref (ma 22), .ref (ma 23), .ref (ma 24), .ref (ma 25), .ref (ma 26), .ref (ma 27), .ref (ma 28), .ref (ma 29), .ref (ma 30), .ref (ma 31), .ref (ma 32), .ref (ma 33), .ref (ma 34), .ref (ma 35), .ref (ma 36), .ref (ma 37), .ref (ma 38), .ref (ma 39), .ref (ma 40), .ref (ma 41), .ref (ma 42), .ref (ma 43), .ref (ma 44), .ref (ma 45), .ref (ma 46), .ref (ma 47), .ref (ma 48), (fv 49), (fv 50), (fv 51), (fv 52), (fv 53), (fv 54), (fv 55), (fv 56), (fv 57), (fv 58), .ref (ma 59), .ref (ma 60), (fv 61), (fv 62), .int (nI st), .int (nI dp), .int 0, .int rv, .ref (ma 67), .ref (ma 68), .ref (ma 69), .int md, (fv 71), .int (nI se), .ref (ma 73)])), ((ma 39), .inl (cy 1, 3400, .inl kf)), ((ma 40), .inl (cy 1, 3400, .inl af)), ((ma 46), .inl (cy 2, 3400, .inr (.inl nf))), ((ma 23), .inl (cy 1, 16, .inl tm)), ((ma 24), .inl (cy 1, 128, .inl mkf)), ((ma 25), .inl (cy 2, 128, .inr (.inl mnf))), ((ma 29), .inl (cy 1, 128, .inl mbf)), ((ma 68), .inl (cy 1, 210, .inl ttf)), ((ma 17), .inl (cy 1, 2, .inl ym)), ((ma 30), .inl (cy 1, 128, .inl mpf)), ((ma 59), .inl (cy 1, 16, .inl tsf)), ((ma 22), .inl (cy 1, 16, .inl tuf)), ((ma 37), .inl (cy 1, 128, .inl mtf)), ((ma 33), .inl (cy 1, 128, .inl mlf)), ((ma 69), .inl (cy 1, 13440, .inl ccf)), ((ma 67), .inl (cy 1, 78, .inl prf))] sz) := by
  refine Met.ofW (cc := cX12_makerOf) (maxL := 4) (ret := (some .int)) (by decide) rfl ?_
  intro p e s m args below meth c s₁ B hml hv
  obtain ⟨rfl, hsz, hP, hK, hD0⟩ := hv
  have hx := B.exec
  have hb := B.bytes
  have hr := B.returns
  have hts := atoms_spec (ws := .code yX12_makerOf cX12_makerOf 4 (some .int) :: TB) B.pre
  have hT : ∀ w ∈ TB, w.before _ s = true := fun w h => hts w (List.mem_cons_of_mem _ h)
  have hown : s.vm.findClass "MakerStartsModel" = some m.cls := findClass_of_methodNamed B.named
  have hlocks := B.notSynchronized
  subst hsz
  have hD := hD0.self (sz := s.heap.size)
  generalize hAe : va_A [(hm, .inr (12, [.int cd, .ref (ma 1), (fv 2), (fv 3), .ref (ma 4), (fv 5), (fv 6), (fv 7), (fv 8), (fv 9), (fv 10), (fv 11), (fv 12), (fv 13), (fv 14), .int hf, (fv 16), .ref (ma 17), .ref (ma 18), .ref (ma 19), .ref (ma 20), .ref (ma 21), .ref (ma 22), .ref (ma 23), .ref (ma 24), .ref (ma 25), .ref (ma 26), .ref (ma 27), .ref (ma 28), .ref (ma 29), .ref (ma 30), .ref (ma 31), .ref (ma 32), .ref (ma 33), .ref (ma 34), .ref (ma 35), .ref (ma 36), .ref (ma 37), .ref (ma 38), .ref (ma 39), .ref (ma 40), .ref (ma 41), .ref (ma 42), .ref (ma 43), .ref (ma 44), .ref (ma 45), .ref (ma 46), .ref (ma 47), .ref (ma 48), (fv 49), (fv 50), (fv 51), (fv 52), (fv 53), (fv 54), (fv 55), (fv 56), (fv 57), (fv 58), .ref (ma 59), .ref (ma 60), (fv 61), (fv 62), .int (nI st), .int (nI dp), .int 0, .int rv, .ref (ma 67), .ref (ma 68), .ref (ma 69), .int md, (fv 71), .int (nI se), .ref (ma 73)])), ((ma 39), .inl (cy 1, 3400, .inl kf)), ((ma 40), .inl (cy 1, 3400, .inl af)), ((ma 46), .inl (cy 2, 3400, .inr (.inl nf))), ((ma 23), .inl (cy 1, 16, .inl tm)), ((ma 24), .inl (cy 1, 128, .inl mkf)), ((ma 25), .inl (cy 2, 128, .inr (.inl mnf))), ((ma 29), .inl (cy 1, 128, .inl mbf)), ((ma 68), .inl (cy 1, 210, .inl ttf)), ((ma 17), .inl (cy 1, 2, .inl ym)), ((ma 30), .inl (cy 1, 128, .inl mpf)), ((ma 59), .inl (cy 1, 16, .inl tsf)), ((ma 22), .inl (cy 1, 16, .inl tuf)), ((ma 37), .inl (cy 1, 128, .inl mtf)), ((ma 33), .inl (cy 1, 128, .inl mlf)), ((ma 69), .inl (cy 1, 13440, .inl ccf)), ((ma 67), .inl (cy 1, 78, .inl prf))] s.heap.size = A at hD  ⊢
  have hA : ∀ q : Nat, s.heap.size ≤ q → A q := fun q h => by rw [← hAe]; exact Or.inr h
  have hS : va_S A s.heap s.heap [] := va_S.rf
  have hP : va_P D vwCl [(hm, .inr (12, [.int cd, .ref (ma 1), (fv 2), (fv 3), .ref (ma 4), (fv 5), (fv 6), (fv 7), (fv 8), (fv 9), (fv 10), (fv 11), (fv 12), (fv 13), (fv 14), .int hf, (fv 16), .ref (ma 17), .ref (ma 18), .ref (ma 19), .ref (ma 20), .ref (ma 21), .ref (ma 22), .ref (ma 23), .ref (ma 24), .ref (ma 25), .ref (ma 26), .ref (ma 27), .ref (ma 28), .ref (ma 29), .ref (ma 30), .ref (ma 31), .ref (ma 32), .ref (ma 33), .ref (ma 34), .ref (ma 35), .ref (ma 36), .ref (ma 37), .ref (ma 38), .ref (ma 39), .ref (ma 40), .ref (ma 41), .ref (ma 42), .ref (ma 43), .ref (ma 44), .ref (ma 45), .ref (ma 46), .ref (ma 47), .ref (ma 48), (fv 49), (fv 50), (fv 51), (fv 52), (fv 53), (fv 54), (fv 55), (fv 56), (fv 57), (fv 58), .ref (ma 59), .ref (ma 60), (fv 61), (fv 62), .int (nI st), .int (nI dp), .int 0, .int rv, .ref (ma 67), .ref (ma 68), .ref (ma 69), .int md, (fv 71), .int (nI se), .ref (ma 73)])), ((ma 39), .inl (cy 1, 3400, .inl kf)), ((ma 40), .inl (cy 1, 3400, .inl af)), ((ma 46), .inl (cy 2, 3400, .inr (.inl nf))), ((ma 23), .inl (cy 1, 16, .inl tm)), ((ma 24), .inl (cy 1, 128, .inl mkf)), ((ma 25), .inl (cy 2, 128, .inr (.inl mnf))), ((ma 29), .inl (cy 1, 128, .inl mbf)), ((ma 68), .inl (cy 1, 210, .inl ttf)), ((ma 17), .inl (cy 1, 2, .inl ym)), ((ma 30), .inl (cy 1, 128, .inl mpf)), ((ma 59), .inl (cy 1, 16, .inl tsf)), ((ma 22), .inl (cy 1, 16, .inl tuf)), ((ma 37), .inl (cy 1, 128, .inl mtf)), ((ma 33), .inl (cy 1, 128, .inl mlf)), ((ma 69), .inl (cy 1, 13440, .inl ccf)), ((ma 67), .inl (cy 1, 78, .inl prf))] s.heap := hP
  have hl := lv_entry ([.ref hm, .int 8, .int 0]) (n := 4) (Nat.le_of_ble_eq_true rfl)
  rw [lg_entry_eq]
  generalize (lg_sl ([.ref hm, .int 8, .int 0]) ++ List.replicate (4 - (lg_sl ([.ref hm, .int 8, .int 0])).length) Slot.unset).toArray = ls at hl ⊢
  have hl : lv_has ls 4 [(0, .ref hm), (1, .int 8), (2, .int 0)] := hl
  obtain ⟨kym, ktm, kk0, kk1, kmp, ktu, kmt, kml, kmb, kbb, kab, kss0, kss, kks, kas, kxx, kkx, knx⟩ := hk
  refine lv_iconst (v := 0) hx hb dX12_makerOf_0 (by decide) ?_
  refine lv_istore_n (lv' := [(3, .int 0), (0, .ref hm), (1, .int 8), (2, .int 0)]) hx hb dX12_makerOf_1 rfl hl (by decide) rfl (fun ls hl => ?_)
  refine lv_iload_n hx hb dX12_makerOf_2 rfl (lv_at hl 0 rfl) ?_
  refine lv_aload_n hx hb dX12_makerOf_3 rfl (lv_at hl 1 rfl) ?_
  refine va_get (D := D) (ci := 12) (v := .ref (ma 23)) (C := RX12) (T := TX12) (N := 74) hx hb hT i_TX12 hown hK hP 0 rfl rfl 23 (by decide) (hT _ t_1738) (fun _ h9 => h9) rfl dX12_makerOf_4 ?_
  refine lv_iload_n hx hb dX12_makerOf_7 rfl (lv_at hl 2 rfl) ?_
  refine va_iald hx hb hK hP 4 1 rfl rfl (vp_in_iff.mpr (by decide)) dX12_makerOf_8 ?_
  refine lv_topi (fun z1 e2 => ?_)
  obtain rfl : z1 = 2 := e2.trans ktm
  refine lv_icmp_ge (tgt := 55) hx hb dX12_makerOf_9 (by decide) (fun c9 => absurd c9 (by decide)) (fun _ => ?_)
  refine lv_aload_n hx hb dX12_makerOf_12 rfl (lv_at hl 1 rfl) ?_
  refine va_get (D := D) (ci := 12) (v := .ref (ma 24)) (C := RX12) (T := TX12) (N := 74) hx hb hT i_TX12 hown hK hP 0 rfl rfl 24 (by decide) (hT _ t_1739) (fun _ h9 => h9) rfl dX12_makerOf_13 ?_
  refine lv_bipush (v := 8) hx hb dX12_makerOf_16 (by decide) ?_
  refine lv_iload_n hx hb dX12_makerOf_18 rfl (lv_at hl 2 rfl) ?_
  refine lv_imul hx hb dX12_makerOf_19 ?_
  refine lv_topi (fun z3 e4 => ?_)
  obtain rfl : z3 = 64 := e4.trans (by first | decide | rfl)
  refine lv_iload_n hx hb dX12_makerOf_20 rfl (lv_at hl 0 rfl) ?_
  refine lv_iadd hx hb dX12_makerOf_21 ?_
  refine lv_topi (fun z5 e6 => ?_)
  obtain rfl : z5 = 64 := e6.trans (by first | decide | rfl)
  refine va_iald hx hb hK hP 5 1 rfl rfl (vp_in_iff.mpr (by decide)) dX12_makerOf_22 ?_
  refine lv_topi (fun z7 e8 => ?_)
  obtain rfl : z7 = 6 := e8.trans kk0
  refine lv_iconst (v := 5) hx hb dX12_makerOf_23 (by decide) ?_
  refine lv_icmp_ne (tgt := 49) hx hb dX12_makerOf_24 (by decide) (fun _ => ?_) (fun c9 => absurd c9 (by decide))
  refine lv_iinc (v := 1) (lv' := [(3, .int 1), (0, .ref hm), (1, .int 8), (2, .int 0)]) hx hb dX12_makerOf_49 hl (k := 0) rfl (by decide) (by decide) rfl (fun ls hl => ?_)
  refine lv_goto (tgt := 2) hx hb dX12_makerOf_52 (by decide) ?_
  refine lv_iload_n hx hb dX12_makerOf_2 rfl (lv_at hl 0 rfl) ?_
  refine lv_aload_n hx hb dX12_makerOf_3 rfl (lv_at hl 1 rfl) ?_
  refine va_get (D := D) (ci := 12) (v := .ref (ma 23)) (C := RX12) (T := TX12) (N := 74) hx hb hT i_TX12 hown hK hP 0 rfl rfl 23 (by decide) (hT _ t_1738) (fun _ h9 => h9) rfl dX12_makerOf_4 ?_
  refine lv_iload_n hx hb dX12_makerOf_7 rfl (lv_at hl 2 rfl) ?_
  refine va_iald hx hb hK hP 4 1 rfl rfl (vp_in_iff.mpr (by decide)) dX12_makerOf_8 ?_
  refine lv_topi (fun z9 e10 => ?_)
  obtain rfl : z9 = 2 := e10.trans ktm
  refine lv_icmp_ge (tgt := 55) hx hb dX12_makerOf_9 (by decide) (fun c9 => absurd c9 (by decide)) (fun _ => ?_)
  refine lv_aload_n hx hb dX12_makerOf_12 rfl (lv_at hl 1 rfl) ?_
  refine va_get (D := D) (ci := 12) (v := .ref (ma 24)) (C := RX12) (T := TX12) (N := 74) hx hb hT i_TX12 hown hK hP 0 rfl rfl 24 (by decide) (hT _ t_1739) (fun _ h9 => h9) rfl dX12_makerOf_13 ?_
  refine lv_bipush (v := 8) hx hb dX12_makerOf_16 (by decide) ?_
  refine lv_iload_n hx hb dX12_makerOf_18 rfl (lv_at hl 2 rfl) ?_
  refine lv_imul hx hb dX12_makerOf_19 ?_
  refine lv_topi (fun z11 e12 => ?_)
  obtain rfl : z11 = 64 := e12.trans (by first | decide | rfl)
  refine lv_iload_n hx hb dX12_makerOf_20 rfl (lv_at hl 0 rfl) ?_
  refine lv_iadd hx hb dX12_makerOf_21 ?_
  refine lv_topi (fun z13 e14 => ?_)
  obtain rfl : z13 = 65 := e14.trans (by first | decide | rfl)
  refine va_iald hx hb hK hP 5 1 rfl rfl (vp_in_iff.mpr (by decide)) dX12_makerOf_22 ?_
  refine lv_topi (fun z15 e16 => ?_)
  obtain rfl : z15 = 5 := e16.trans kk1
  refine lv_iconst (v := 5) hx hb dX12_makerOf_23 (by decide) ?_
  refine lv_icmp_ne (tgt := 49) hx hb dX12_makerOf_24 (by decide) (fun c9 => absurd (by decide) c9) (fun _ => ?_)
  refine lv_aload_n hx hb dX12_makerOf_27 rfl (lv_at hl 1 rfl) ?_
  refine va_get (D := D) (ci := 12) (v := .ref (ma 30)) (C := RX12) (T := TX12) (N := 74) hx hb hT i_TX12 hown hK hP 0 rfl rfl 30 (by decide) (hT _ t_1745) (fun _ h9 => h9) rfl dX12_makerOf_28 ?_
  refine lv_bipush (v := 8) hx hb dX12_makerOf_31 (by decide) ?_
  refine lv_iload_n hx hb dX12_makerOf_33 rfl (lv_at hl 2 rfl) ?_
  refine lv_imul hx hb dX12_makerOf_34 ?_
  refine lv_topi (fun z17 e18 => ?_)
  obtain rfl : z17 = 64 := e18.trans (by first | decide | rfl)
  refine lv_iload_n hx hb dX12_makerOf_35 rfl (lv_at hl 0 rfl) ?_
  refine lv_iadd hx hb dX12_makerOf_36 ?_
  refine lv_topi (fun z19 e20 => ?_)
  obtain rfl : z19 = 65 := e20.trans (by first | decide | rfl)
  refine va_iald hx hb hK hP 10 1 rfl rfl (vp_in_iff.mpr (by decide)) dX12_makerOf_37 ?_
  refine lv_topi (fun z21 e22 => ?_)
  obtain rfl : z21 = 0 := e22.trans kmp
  refine lv_iload_n hx hb dX12_makerOf_38 rfl (lv_at hl 3 rfl) ?_
  refine lv_icmp_ne (tgt := 49) hx hb dX12_makerOf_39 (by decide) (fun c9 => absurd (by decide) c9) (fun _ => ?_)
  refine lv_bipush (v := 8) hx hb dX12_makerOf_42 (by decide) ?_
  refine lv_iload_n hx hb dX12_makerOf_44 rfl (lv_at hl 2 rfl) ?_
  refine lv_imul hx hb dX12_makerOf_45 ?_
  refine lv_topi (fun z23 e24 => ?_)
  obtain rfl : z23 = 64 := e24.trans (by first | decide | rfl)
  refine lv_iload_n hx hb dX12_makerOf_46 rfl (lv_at hl 0 rfl) ?_
  refine lv_iadd hx hb dX12_makerOf_47 ?_
  refine lv_topi (fun z25 e26 => ?_)
  obtain rfl : z25 = 65 := e26.trans (by first | decide | rfl)
  have hP9 := hP.sub (ws' := [(hm, .inr (12, [.int cd, .ref (ma 1), (fv 2), (fv 3), .ref (ma 4), (fv 5), (fv 6), (fv 7), (fv 8), (fv 9), (fv 10), (fv 11), (fv 12), (fv 13), (fv 14), .int hf, (fv 16), .ref (ma 17), .ref (ma 18), .ref (ma 19), .ref (ma 20), .ref (ma 21), .ref (ma 22), .ref (ma 23), .ref (ma 24), .ref (ma 25), .ref (ma 26), .ref (ma 27), .ref (ma 28), .ref (ma 29), .ref (ma 30), .ref (ma 31), .ref (ma 32), .ref (ma 33), .ref (ma 34), .ref (ma 35), .ref (ma 36), .ref (ma 37), .ref (ma 38), .ref (ma 39), .ref (ma 40), .ref (ma 41), .ref (ma 42), .ref (ma 43), .ref (ma 44), .ref (ma 45), .ref (ma 46), .ref (ma 47), .ref (ma 48), (fv 49), (fv 50), (fv 51), (fv 52), (fv 53), (fv 54), (fv 55), (fv 56), (fv 57), (fv 58), .ref (ma 59), .ref (ma 60), (fv 61), (fv 62), .int (nI st), .int (nI dp), .int 0, .int rv, .ref (ma 67), .ref (ma 68), .ref (ma 69), .int md, (fv 71), .int (nI se), .ref (ma 73)])), ((ma 39), .inl (cy 1, 3400, .inl kf)), ((ma 40), .inl (cy 1, 3400, .inl af)), ((ma 46), .inl (cy 2, 3400, .inr (.inl nf))), ((ma 23), .inl (cy 1, 16, .inl tm)), ((ma 24), .inl (cy 1, 128, .inl mkf)), ((ma 25), .inl (cy 2, 128, .inr (.inl mnf))), ((ma 29), .inl (cy 1, 128, .inl mbf)), ((ma 68), .inl (cy 1, 210, .inl ttf)), ((ma 17), .inl (cy 1, 2, .inl ym)), ((ma 30), .inl (cy 1, 128, .inl mpf)), ((ma 59), .inl (cy 1, 16, .inl tsf)), ((ma 22), .inl (cy 1, 16, .inl tuf)), ((ma 37), .inl (cy 1, 128, .inl mtf)), ((ma 33), .inl (cy 1, 128, .inl mlf)), ((ma 69), .inl (cy 1, 13440, .inl ccf)), ((ma 67), .inl (cy 1, 78, .inl prf))]) [0, 1, 2, 3, 4, 5, 6, 7, 8, 9, 10, 11, 12, 13, 14, 15, 16] rfl
  have hD9 := hD.sub (ws' := [(hm, .inr (12, [.int cd, .ref (ma 1), (fv 2), (fv 3), .ref (ma 4), (fv 5), (fv 6), (fv 7), (fv 8), (fv 9), (fv 10), (fv 11), (fv 12), (fv 13), (fv 14), .int hf, (fv 16), .ref (ma 17), .ref (ma 18), .ref (ma 19), .ref (ma 20), .ref (ma 21), .ref (ma 22), .ref (ma 23), .ref (ma 24), .ref (ma 25), .ref (ma 26), .ref (ma 27), .ref (ma 28), .ref (ma 29), .ref (ma 30), .ref (ma 31), .ref (ma 32), .ref (ma 33), .ref (ma 34), .ref (ma 35), .ref (ma 36), .ref (ma 37), .ref (ma 38), .ref (ma 39), .ref (ma 40), .ref (ma 41), .ref (ma 42), .ref (ma 43), .ref (ma 44), .ref (ma 45), .ref (ma 46), .ref (ma 47), .ref (ma 48), (fv 49), (fv 50), (fv 51), (fv 52), (fv 53), (fv 54), (fv 55), (fv 56), (fv 57), (fv 58), .ref (ma 59), .ref (ma 60), (fv 61), (fv 62), .int (nI st), .int (nI dp), .int 0, .int rv, .ref (ma 67), .ref (ma 68), .ref (ma 69), .int md, (fv 71), .int (nI se), .ref (ma 73)])), ((ma 39), .inl (cy 1, 3400, .inl kf)), ((ma 40), .inl (cy 1, 3400, .inl af)), ((ma 46), .inl (cy 2, 3400, .inr (.inl nf))), ((ma 23), .inl (cy 1, 16, .inl tm)), ((ma 24), .inl (cy 1, 128, .inl mkf)), ((ma 25), .inl (cy 2, 128, .inr (.inl mnf))), ((ma 29), .inl (cy 1, 128, .inl mbf)), ((ma 68), .inl (cy 1, 210, .inl ttf)), ((ma 17), .inl (cy 1, 2, .inl ym)), ((ma 30), .inl (cy 1, 128, .inl mpf)), ((ma 59), .inl (cy 1, 16, .inl tsf)), ((ma 22), .inl (cy 1, 16, .inl tuf)), ((ma 37), .inl (cy 1, 128, .inl mtf)), ((ma 33), .inl (cy 1, 128, .inl mlf)), ((ma 69), .inl (cy 1, 13440, .inl ccf)), ((ma 67), .inl (cy 1, 78, .inl prf))]) [0, 1, 2, 3, 4, 5, 6, 7, 8, 9, 10, 11, 12, 13, 14, 15, 16] (by decide) rfl
  refine W.widen (k := 0) (n := 0) (Nat.le_of_ble_eq_true rfl) (Nat.le_of_ble_eq_true rfl) ?_
  exact W.iret (v := 65) hx hb hr (fun t ht hW => ⟨⟨65, (), rfl, rfl, by rw [ht]; exact hP9, hD9⟩, hS.F ht⟩) hS.2.2 dX12_makerOf_48

set_option maxHeartbeats 4000000 in
set_option maxRecDepth 100000 in
theorem d_fresh (l : Launch) (D : va_G) (cy : Nat → ClassId) (sz : Nat) (hm : Nat) (ma : Nat → Nat) (fv : Nat → Value) (kf : Nat → Int32) (af : Nat → Int32) (nf : Nat → Int64) (tm : Nat → Int32) (mkf : Nat → Int32) (mnf : Nat → Int64) (mbf : Nat → Int32) (ttf : Nat → Int32) (kn : Nat → Nat) (nn : Nat) (se : Nat) (tt : Nat) (bb : Nat) (ss : Nat) (nm : Int64) (st : Nat) (dp : Nat) (rv : Int32) (cd : Int32) (md : Int32) (hf : Int32) (oo : Int32) (so : Int32) (sto : Int32) (dpo : Int32) : Met l yX12_fresh (.code yX12_fresh cX12_fresh 1 none :: TB) ({ frames := 0, cells := 0, slots := 0, locals := 0 }) (va_Pc [.ref hm] (fun U => U.heap.size = sz ∧ va_P D vwCl [(hm, .inr (12, [.int cd, .ref (ma 1), (fv 2), (fv 3), .ref (ma 4), (fv 5), (fv 6), (fv 7), (fv 8), (fv 9), (fv 10), (fv 11), (fv 12), (fv 13), (fv 14), .int 1, (fv 16), .ref (ma 17), .ref (ma 18), .ref (ma 19), .ref (ma 20), .ref (ma 21), .ref (ma 22), .ref (ma 23), .ref (ma 24), .ref (ma 25), .ref (ma 26), .ref (ma 27), .ref (ma 28), .ref (ma 29), .ref (ma 30), .ref (ma 31), .ref (ma 32), .ref (ma 33), .ref (ma 34), .ref (ma 35), .ref (ma 36), .ref (ma 37), .ref (ma 38), .ref (ma 39), .ref (ma 40), .ref (ma 41), .ref (ma 42), .ref (ma 43), .ref (ma 44), .ref (ma 45), .ref (ma 46), .ref (ma 47), .ref (ma 48), (fv 49), (fv 50), (fv 51), (fv 52), (fv 53), (fv 54), (fv 55), (fv 56), (fv 57), (fv 58), .ref (ma 59), .ref (ma 60), (fv 61), (fv 62), .int sto, .int dpo, .int oo, .int rv, .ref (ma 67), .ref (ma 68), .ref (ma 69), .int md, (fv 71), .int so, .ref (ma 73)]))] U.heap ∧ va_K D vwCl (TY cy) U ∧ va_D (fun _ => True) [(hm, .inr (12, [.int cd, .ref (ma 1), (fv 2), (fv 3), .ref (ma 4), (fv 5), (fv 6), (fv 7), (fv 8), (fv 9), (fv 10), (fv 11), (fv 12), (fv 13), (fv 14), .int 1, (fv 16), .ref (ma 17), .ref (ma 18), .ref (ma 19), .ref (ma 20), .ref (ma 21), .ref (ma 22), .ref (ma 23), .ref (ma 24), .ref (ma 25), .ref (ma 26), .ref (ma 27), .ref (ma 28), .ref (ma 29), .ref (ma 30), .ref (ma 31), .ref (ma 32), .ref (ma 33), .ref (ma 34), .ref (ma 35), .ref (ma 36), .ref (ma 37), .ref (ma 38), .ref (ma 39), .ref (ma 40), .ref (ma 41), .ref (ma 42), .ref (ma 43), .ref (ma 44), .ref (ma 45), .ref (ma 46), .ref (ma 47), .ref (ma 48), (fv 49), (fv 50), (fv 51), (fv 52), (fv 53), (fv 54), (fv 55), (fv 56), (fv 57), (fv 58), .ref (ma 59), .ref (ma 60), (fv 61), (fv 62), .int sto, .int dpo, .int oo, .int rv, .ref (ma 67), .ref (ma 68), .ref (ma 69), .int md, (fv 71), .int so, .ref (ma 73)]))])) (va_Qv (fun (u : Unit) => True) (fun (u : Unit) t => va_P D vwCl [(hm, .inr (12, [.int cd, .ref (ma 1), (fv 2), (fv 3), .ref (ma 4), (fv 5), (fv 6), (fv 7), (fv 8), (fv 9), (fv 10), (fv 11), (fv 12), (fv 13), (fv 14), .int 1, (fv 16), .ref (ma 17), .ref (ma 18), .ref (ma 19), .ref (ma 20), .ref (ma 21), .ref (ma 22), .ref (ma 23), .ref (ma 24), .ref (ma 25), .ref (ma 26), .ref (ma 27), .ref (ma 28), .ref (ma 29), .ref (ma 30), .ref (ma 31), .ref (ma 32), .ref (ma 33), .ref (ma 34), .ref (ma 35), .ref (ma 36), .ref (ma 37), .ref (ma 38), .ref (ma 39), .ref (ma 40), .ref (ma 41), .ref (ma 42), .ref (ma 43), .ref (ma 44), .ref (ma 45), .ref (ma 46), .ref (ma 47), .ref (ma 48), (fv 49), (fv 50), (fv 51), (fv 52), (fv 53), (fv 54), (fv 55), (fv 56), (fv 57), (fv 58), .ref (ma 59), .ref (ma 60), (fv 61), (fv 62), .int 0, .int 0, .int 0, .int rv, .ref (ma 67), .ref (ma 68), .ref (ma 69), .int 0, (fv 71), .int 0, .ref (ma 73)]))] t.heap ∧ va_D (va_A [(hm, .inr (12, [.int cd, .ref (ma 1), (fv 2), (fv 3), .ref (ma 4), (fv 5), (fv 6), (fv 7), (fv 8), (fv 9), (fv 10), (fv 11), (fv 12), (fv 13), (fv 14), .int 1, (fv 16), .ref (ma 17), .ref (ma 18), .ref (ma 19), .ref (ma 20), .ref (ma 21), .ref (ma 22), .ref (ma 23), .ref (ma 24), .ref (ma 25), .ref (ma 26), .ref (ma 27), .ref (ma 28), .ref (ma 29), .ref (ma 30), .ref (ma 31), .ref (ma 32), .ref (ma 33), .ref (ma 34), .ref (ma 35), .ref (ma 36), .ref (ma 37), .ref (ma 38), .ref (ma 39), .ref (ma 40), .ref (ma 41), .ref (ma 42), .ref (ma 43), .ref (ma 44), .ref (ma 45), .ref (ma 46), .ref (ma 47), .ref (ma 48), (fv 49), (fv 50), (fv 51), (fv 52), (fv 53), (fv 54), (fv 55), (fv 56), (fv 57), (fv 58), .ref (ma 59), .ref (ma 60), (fv 61), (fv 62), .int sto, .int dpo, .int oo, .int rv, .ref (ma 67), .ref (ma 68), .ref (ma 69), .int md, (fv 71), .int so, .ref (ma 73)]))] sz) [(hm, .inr (12, [.int cd, .ref (ma 1), (fv 2), (fv 3), .ref (ma 4), (fv 5), (fv 6), (fv 7), (fv 8), (fv 9), (fv 10), (fv 11), (fv 12), (fv 13), (fv 14), .int 1, (fv 16), .ref (ma 17), .ref (ma 18), .ref (ma 19), .ref (ma 20), .ref (ma 21), .ref (ma 22), .ref (ma 23), .ref (ma 24), .ref (ma 25), .ref (ma 26), .ref (ma 27), .ref (ma 28), .ref (ma 29), .ref (ma 30), .ref (ma 31), .ref (ma 32), .ref (ma 33), .ref (ma 34), .ref (ma 35), .ref (ma 36), .ref (ma 37), .ref (ma 38), .ref (ma 39), .ref (ma 40), .ref (ma 41), .ref (ma 42), .ref (ma 43), .ref (ma 44), .ref (ma 45), .ref (ma 46), .ref (ma 47), .ref (ma 48), (fv 49), (fv 50), (fv 51), (fv 52), (fv 53), (fv 54), (fv 55), (fv 56), (fv 57), (fv 58), .ref (ma 59), .ref (ma 60), (fv 61), (fv 62), .int 0, .int 0, .int 0, .int rv, .ref (ma 67), .ref (ma 68), .ref (ma 69), .int 0, (fv 71), .int 0, .ref (ma 73)]))]) (va_A [(hm, .inr (12, [.int cd, .ref (ma 1), (fv 2), (fv 3), .ref (ma 4), (fv 5), (fv 6), (fv 7), (fv 8), (fv 9), (fv 10), (fv 11), (fv 12), (fv 13), (fv 14), .int 1, (fv 16), .ref (ma 17), .ref (ma 18), .ref (ma 19), .ref (ma 20), .ref (ma 21), .ref (ma 22), .ref (ma 23), .ref (ma 24), .ref (ma 25), .ref (ma 26), .ref (ma 27), .ref (ma 28), .ref (ma 29), .ref (ma 30), .ref (ma 31), .ref (ma 32), .ref (ma 33), .ref (ma 34), .ref (ma 35), .ref (ma 36), .ref (ma 37), .ref (ma 38), .ref (ma 39), .ref (ma 40), .ref (ma 41), .ref (ma 42), .ref (ma 43), .ref (ma 44), .ref (ma 45), .ref (ma 46), .ref (ma 47), .ref (ma 48), (fv 49), (fv 50), (fv 51), (fv 52), (fv 53), (fv 54), (fv 55), (fv 56), (fv 57), (fv 58), .ref (ma 59), .ref (ma 60), (fv 61), (fv 62), .int sto, .int dpo, .int oo, .int rv, .ref (ma 67), .ref (ma 68), .ref (ma 69), .int md, (fv 71), .int so, .ref (ma 73)]))] sz)) 0 0 (va_A [(hm, .inr (12, [.int cd, .ref (ma 1), (fv 2), (fv 3), .ref (ma 4), (fv 5), (fv 6), (fv 7), (fv 8), (fv 9), (fv 10), (fv 11), (fv 12), (fv 13), (fv 14), .int 1, (fv 16), .ref (ma 17), .ref (ma 18), .ref (ma 19), .ref (ma 20), .ref (ma 21), .ref (ma 22), .ref (ma 23), .ref (ma 24), .ref (ma 25), .ref (ma 26), .ref (ma 27), .ref (ma 28), .ref (ma 29), .ref (ma 30), .ref (ma 31), .ref (ma 32), .ref (ma 33), .ref (ma 34), .ref (ma 35), .ref (ma 36), .ref (ma 37), .ref (ma 38), .ref (ma 39), .ref (ma 40), .ref (ma 41), .ref (ma 42), .ref (ma 43), .ref (ma 44), .ref (ma 45), .ref (ma 46), .ref (ma 47), .ref (ma 48), (fv 49), (fv 50), (fv 51), (fv 52), (fv 53), (fv 54), (fv 55), (fv 56), (fv 57), (fv 58), .ref (ma 59), .ref (ma 60), (fv 61), (fv 62), .int sto, .int dpo, .int oo, .int rv, .ref (ma 67), .ref (ma 68), .ref (ma 69), .int md, (fv 71), .int so, .ref (ma 73)]))] sz) := by
  refine Met.ofW (cc := cX12_fresh) (maxL := 1) (ret := none) (by decide) rfl ?_
  intro p e s m args below meth c s₁ B hml hv
  obtain ⟨rfl, hsz, hP, hK, hD0⟩ := hv
  have hx := B.exec
  have hb := B.bytes
  have hr := B.returns
  have hts := atoms_spec (ws := .code yX12_fresh cX12_fresh 1 none :: TB) B.pre
  have hT : ∀ w ∈ TB, w.before _ s = true := fun w h => hts w (List.mem_cons_of_mem _ h)
  have hown : s.vm.findClass "MakerStartsModel" = some m.cls := findClass_of_methodNamed B.named
  have hlocks := B.notSynchronized
  subst hsz
  have hD := hD0.self (sz := s.heap.size)
  generalize hAe : va_A [(hm, .inr (12, [.int cd, .ref (ma 1), (fv 2), (fv 3), .ref (ma 4), (fv 5), (fv 6), (fv 7), (fv 8), (fv 9), (fv 10), (fv 11), (fv 12), (fv 13), (fv 14), .int 1, (fv 16), .ref (ma 17), .ref (ma 18), .ref (ma 19), .ref (ma 20), .ref (ma 21), .ref (ma 22), .ref (ma 23), .ref (ma 24), .ref (ma 25), .ref (ma 26), .ref (ma 27), .ref (ma 28), .ref (ma 29), .ref (ma 30), .ref (ma 31), .ref (ma 32), .ref (ma 33), .ref (ma 34), .ref (ma 35), .ref (ma 36), .ref (ma 37), .ref (ma 38), .ref (ma 39), .ref (ma 40), .ref (ma 41), .ref (ma 42), .ref (ma 43), .ref (ma 44), .ref (ma 45), .ref (ma 46), .ref (ma 47), .ref (ma 48), (fv 49), (fv 50), (fv 51), (fv 52), (fv 53), (fv 54), (fv 55), (fv 56), (fv 57), (fv 58), .ref (ma 59), .ref (ma 60), (fv 61), (fv 62), .int sto, .int dpo, .int oo, .int rv, .ref (ma 67), .ref (ma 68), .ref (ma 69), .int md, (fv 71), .int so, .ref (ma 73)]))] s.heap.size = A at hD  ⊢
  have hA : ∀ q : Nat, s.heap.size ≤ q → A q := fun q h => by rw [← hAe]; exact Or.inr h
  have hS : va_S A s.heap s.heap [] := va_S.rf
  have hP : va_P D vwCl [(hm, .inr (12, [.int cd, .ref (ma 1), (fv 2), (fv 3), .ref (ma 4), (fv 5), (fv 6), (fv 7), (fv 8), (fv 9), (fv 10), (fv 11), (fv 12), (fv 13), (fv 14), .int 1, (fv 16), .ref (ma 17), .ref (ma 18), .ref (ma 19), .ref (ma 20), .ref (ma 21), .ref (ma 22), .ref (ma 23), .ref (ma 24), .ref (ma 25), .ref (ma 26), .ref (ma 27), .ref (ma 28), .ref (ma 29), .ref (ma 30), .ref (ma 31), .ref (ma 32), .ref (ma 33), .ref (ma 34), .ref (ma 35), .ref (ma 36), .ref (ma 37), .ref (ma 38), .ref (ma 39), .ref (ma 40), .ref (ma 41), .ref (ma 42), .ref (ma 43), .ref (ma 44), .ref (ma 45), .ref (ma 46), .ref (ma 47), .ref (ma 48), (fv 49), (fv 50), (fv 51), (fv 52), (fv 53), (fv 54), (fv 55), (fv 56), (fv 57), (fv 58), .ref (ma 59), .ref (ma 60), (fv 61), (fv 62), .int sto, .int dpo, .int oo, .int rv, .ref (ma 67), .ref (ma 68), .ref (ma 69), .int md, (fv 71), .int so, .ref (ma 73)]))] s.heap := hP
  have hl := lv_entry ([.ref hm]) (n := 1) (Nat.le_of_ble_eq_true rfl)
  rw [lg_entry_eq]
  generalize (lg_sl ([.ref hm]) ++ List.replicate (1 - (lg_sl ([.ref hm])).length) Slot.unset).toArray = ls at hl ⊢
  have hl : lv_has ls 1 [(0, .ref hm)] := hl
  refine lv_aload_n hx hb dX12_fresh_0 rfl (lv_at hl 0 rfl) ?_
  refine lv_iconst (v := 0) hx hb dX12_fresh_1 (by decide) ?_
  refine va_put (D := D) (ci := 12) (v := .int 0) (ty := .int) (C := RX12) (T := TX12) (N := 74) hx hb hT i_TX12 tyX12 tyX12_ok nmX12 hown hK hP hD hS 0 rfl rfl 63 (by decide) (hT _ t_1778) (fun _ h9 => h9) rfl (by decide +kernel) rfl rfl (Nat.le_of_ble_eq_true rfl) dX12_fresh_2 (fun H locs hP hD hS => ?_)
  have hP : va_P D vwCl [(hm, .inr (12, [.int cd, .ref (ma 1), (fv 2), (fv 3), .ref (ma 4), (fv 5), (fv 6), (fv 7), (fv 8), (fv 9), (fv 10), (fv 11), (fv 12), (fv 13), (fv 14), .int 1, (fv 16), .ref (ma 17), .ref (ma 18), .ref (ma 19), .ref (ma 20), .ref (ma 21), .ref (ma 22), .ref (ma 23), .ref (ma 24), .ref (ma 25), .ref (ma 26), .ref (ma 27), .ref (ma 28), .ref (ma 29), .ref (ma 30), .ref (ma 31), .ref (ma 32), .ref (ma 33), .ref (ma 34), .ref (ma 35), .ref (ma 36), .ref (ma 37), .ref (ma 38), .ref (ma 39), .ref (ma 40), .ref (ma 41), .ref (ma 42), .ref (ma 43), .ref (ma 44), .ref (ma 45), .ref (ma 46), .ref (ma 47), .ref (ma 48), (fv 49), (fv 50), (fv 51), (fv 52), (fv 53), (fv 54), (fv 55), (fv 56), (fv 57), (fv 58), .ref (ma 59), .ref (ma 60), (fv 61), (fv 62), .int 0, .int dpo, .int oo, .int rv, .ref (ma 67), .ref (ma 68), .ref (ma 69), .int md, (fv 71), .int so, .ref (ma 73)]))] H := hP
  have hD : va_D A [(hm, .inr (12, [.int cd, .ref (ma 1), (fv 2), (fv 3), .ref (ma 4), (fv 5), (fv 6), (fv 7), (fv 8), (fv 9), (fv 10), (fv 11), (fv 12), (fv 13), (fv 14), .int 1, (fv 16), .ref (ma 17), .ref (ma 18), .ref (ma 19), .ref (ma 20), .ref (ma 21), .ref (ma 22), .ref (ma 23), .ref (ma 24), .ref (ma 25), .ref (ma 26), .ref (ma 27), .ref (ma 28), .ref (ma 29), .ref (ma 30), .ref (ma 31), .ref (ma 32), .ref (ma 33), .ref (ma 34), .ref (ma 35), .ref (ma 36), .ref (ma 37), .ref (ma 38), .ref (ma 39), .ref (ma 40), .ref (ma 41), .ref (ma 42), .ref (ma 43), .ref (ma 44), .ref (ma 45), .ref (ma 46), .ref (ma 47), .ref (ma 48), (fv 49), (fv 50), (fv 51), (fv 52), (fv 53), (fv 54), (fv 55), (fv 56), (fv 57), (fv 58), .ref (ma 59), .ref (ma 60), (fv 61), (fv 62), .int 0, .int dpo, .int oo, .int rv, .ref (ma 67), .ref (ma 68), .ref (ma 69), .int md, (fv 71), .int so, .ref (ma 73)]))] := hD
  refine lv_aload_n hx hb dX12_fresh_5 rfl (lv_at hl 0 rfl) ?_
  refine lv_iconst (v := 0) hx hb dX12_fresh_6 (by decide) ?_
  refine va_put (D := D) (ci := 12) (v := .int 0) (ty := .int) (C := RX12) (T := TX12) (N := 74) hx hb hT i_TX12 tyX12 tyX12_ok nmX12 hown hK hP hD hS 0 rfl rfl 64 (by decide) (hT _ t_1779) (fun _ h9 => h9) rfl (by decide +kernel) rfl rfl (Nat.le_of_ble_eq_true rfl) dX12_fresh_7 (fun H locs hP hD hS => ?_)
  have hP : va_P D vwCl [(hm, .inr (12, [.int cd, .ref (ma 1), (fv 2), (fv 3), .ref (ma 4), (fv 5), (fv 6), (fv 7), (fv 8), (fv 9), (fv 10), (fv 11), (fv 12), (fv 13), (fv 14), .int 1, (fv 16), .ref (ma 17), .ref (ma 18), .ref (ma 19), .ref (ma 20), .ref (ma 21), .ref (ma 22), .ref (ma 23), .ref (ma 24), .ref (ma 25), .ref (ma 26), .ref (ma 27), .ref (ma 28), .ref (ma 29), .ref (ma 30), .ref (ma 31), .ref (ma 32), .ref (ma 33), .ref (ma 34), .ref (ma 35), .ref (ma 36), .ref (ma 37), .ref (ma 38), .ref (ma 39), .ref (ma 40), .ref (ma 41), .ref (ma 42), .ref (ma 43), .ref (ma 44), .ref (ma 45), .ref (ma 46), .ref (ma 47), .ref (ma 48), (fv 49), (fv 50), (fv 51), (fv 52), (fv 53), (fv 54), (fv 55), (fv 56), (fv 57), (fv 58), .ref (ma 59), .ref (ma 60), (fv 61), (fv 62), .int 0, .int 0, .int oo, .int rv, .ref (ma 67), .ref (ma 68), .ref (ma 69), .int md, (fv 71), .int so, .ref (ma 73)]))] H := hP
  have hD : va_D A [(hm, .inr (12, [.int cd, .ref (ma 1), (fv 2), (fv 3), .ref (ma 4), (fv 5), (fv 6), (fv 7), (fv 8), (fv 9), (fv 10), (fv 11), (fv 12), (fv 13), (fv 14), .int 1, (fv 16), .ref (ma 17), .ref (ma 18), .ref (ma 19), .ref (ma 20), .ref (ma 21), .ref (ma 22), .ref (ma 23), .ref (ma 24), .ref (ma 25), .ref (ma 26), .ref (ma 27), .ref (ma 28), .ref (ma 29), .ref (ma 30), .ref (ma 31), .ref (ma 32), .ref (ma 33), .ref (ma 34), .ref (ma 35), .ref (ma 36), .ref (ma 37), .ref (ma 38), .ref (ma 39), .ref (ma 40), .ref (ma 41), .ref (ma 42), .ref (ma 43), .ref (ma 44), .ref (ma 45), .ref (ma 46), .ref (ma 47), .ref (ma 48), (fv 49), (fv 50), (fv 51), (fv 52), (fv 53), (fv 54), (fv 55), (fv 56), (fv 57), (fv 58), .ref (ma 59), .ref (ma 60), (fv 61), (fv 62), .int 0, .int 0, .int oo, .int rv, .ref (ma 67), .ref (ma 68), .ref (ma 69), .int md, (fv 71), .int so, .ref (ma 73)]))] := hD
  refine lv_aload_n hx hb dX12_fresh_10 rfl (lv_at hl 0 rfl) ?_
  refine lv_iconst (v := 0) hx hb dX12_fresh_11 (by decide) ?_
  refine va_put (D := D) (ci := 12) (v := .int 0) (ty := .int) (C := RX12) (T := TX12) (N := 74) hx hb hT i_TX12 tyX12 tyX12_ok nmX12 hown hK hP hD hS 0 rfl rfl 65 (by decide) (hT _ t_1780) (fun _ h9 => h9) rfl (by decide +kernel) rfl rfl (Nat.le_of_ble_eq_true rfl) dX12_fresh_12 (fun H locs hP hD hS => ?_)
  have hP : va_P D vwCl [(hm, .inr (12, [.int cd, .ref (ma 1), (fv 2), (fv 3), .ref (ma 4), (fv 5), (fv 6), (fv 7), (fv 8), (fv 9), (fv 10), (fv 11), (fv 12), (fv 13), (fv 14), .int 1, (fv 16), .ref (ma 17), .ref (ma 18), .ref (ma 19), .ref (ma 20), .ref (ma 21), .ref (ma 22), .ref (ma 23), .ref (ma 24), .ref (ma 25), .ref (ma 26), .ref (ma 27), .ref (ma 28), .ref (ma 29), .ref (ma 30), .ref (ma 31), .ref (ma 32), .ref (ma 33), .ref (ma 34), .ref (ma 35), .ref (ma 36), .ref (ma 37), .ref (ma 38), .ref (ma 39), .ref (ma 40), .ref (ma 41), .ref (ma 42), .ref (ma 43), .ref (ma 44), .ref (ma 45), .ref (ma 46), .ref (ma 47), .ref (ma 48), (fv 49), (fv 50), (fv 51), (fv 52), (fv 53), (fv 54), (fv 55), (fv 56), (fv 57), (fv 58), .ref (ma 59), .ref (ma 60), (fv 61), (fv 62), .int 0, .int 0, .int 0, .int rv, .ref (ma 67), .ref (ma 68), .ref (ma 69), .int md, (fv 71), .int so, .ref (ma 73)]))] H := hP
  have hD : va_D A [(hm, .inr (12, [.int cd, .ref (ma 1), (fv 2), (fv 3), .ref (ma 4), (fv 5), (fv 6), (fv 7), (fv 8), (fv 9), (fv 10), (fv 11), (fv 12), (fv 13), (fv 14), .int 1, (fv 16), .ref (ma 17), .ref (ma 18), .ref (ma 19), .ref (ma 20), .ref (ma 21), .ref (ma 22), .ref (ma 23), .ref (ma 24), .ref (ma 25), .ref (ma 26), .ref (ma 27), .ref (ma 28), .ref (ma 29), .ref (ma 30), .ref (ma 31), .ref (ma 32), .ref (ma 33), .ref (ma 34), .ref (ma 35), .ref (ma 36), .ref (ma 37), .ref (ma 38), .ref (ma 39), .ref (ma 40), .ref (ma 41), .ref (ma 42), .ref (ma 43), .ref (ma 44), .ref (ma 45), .ref (ma 46), .ref (ma 47), .ref (ma 48), (fv 49), (fv 50), (fv 51), (fv 52), (fv 53), (fv 54), (fv 55), (fv 56), (fv 57), (fv 58), .ref (ma 59), .ref (ma 60), (fv 61), (fv 62), .int 0, .int 0, .int 0, .int rv, .ref (ma 67), .ref (ma 68), .ref (ma 69), .int md, (fv 71), .int so, .ref (ma 73)]))] := hD
  refine lv_aload_n hx hb dX12_fresh_15 rfl (lv_at hl 0 rfl) ?_
  refine lv_iconst (v := 0) hx hb dX12_fresh_16 (by decide) ?_
  refine va_put (D := D) (ci := 12) (v := .int 0) (ty := .int) (C := RX12) (T := TX12) (N := 74) hx hb hT i_TX12 tyX12 tyX12_ok nmX12 hown hK hP hD hS 0 rfl rfl 70 (by decide) (hT _ t_1785) (fun _ h9 => h9) rfl (by decide +kernel) rfl rfl (Nat.le_of_ble_eq_true rfl) dX12_fresh_17 (fun H locs hP hD hS => ?_)
  have hP : va_P D vwCl [(hm, .inr (12, [.int cd, .ref (ma 1), (fv 2), (fv 3), .ref (ma 4), (fv 5), (fv 6), (fv 7), (fv 8), (fv 9), (fv 10), (fv 11), (fv 12), (fv 13), (fv 14), .int 1, (fv 16), .ref (ma 17), .ref (ma 18), .ref (ma 19), .ref (ma 20), .ref (ma 21), .ref (ma 22), .ref (ma 23), .ref (ma 24), .ref (ma 25), .ref (ma 26), .ref (ma 27), .ref (ma 28), .ref (ma 29), .ref (ma 30), .ref (ma 31), .ref (ma 32), .ref (ma 33), .ref (ma 34), .ref (ma 35), .ref (ma 36), .ref (ma 37), .ref (ma 38), .ref (ma 39), .ref (ma 40), .ref (ma 41), .ref (ma 42), .ref (ma 43), .ref (ma 44), .ref (ma 45), .ref (ma 46), .ref (ma 47), .ref (ma 48), (fv 49), (fv 50), (fv 51), (fv 52), (fv 53), (fv 54), (fv 55), (fv 56), (fv 57), (fv 58), .ref (ma 59), .ref (ma 60), (fv 61), (fv 62), .int 0, .int 0, .int 0, .int rv, .ref (ma 67), .ref (ma 68), .ref (ma 69), .int 0, (fv 71), .int so, .ref (ma 73)]))] H := hP
  have hD : va_D A [(hm, .inr (12, [.int cd, .ref (ma 1), (fv 2), (fv 3), .ref (ma 4), (fv 5), (fv 6), (fv 7), (fv 8), (fv 9), (fv 10), (fv 11), (fv 12), (fv 13), (fv 14), .int 1, (fv 16), .ref (ma 17), .ref (ma 18), .ref (ma 19), .ref (ma 20), .ref (ma 21), .ref (ma 22), .ref (ma 23), .ref (ma 24), .ref (ma 25), .ref (ma 26), .ref (ma 27), .ref (ma 28), .ref (ma 29), .ref (ma 30), .ref (ma 31), .ref (ma 32), .ref (ma 33), .ref (ma 34), .ref (ma 35), .ref (ma 36), .ref (ma 37), .ref (ma 38), .ref (ma 39), .ref (ma 40), .ref (ma 41), .ref (ma 42), .ref (ma 43), .ref (ma 44), .ref (ma 45), .ref (ma 46), .ref (ma 47), .ref (ma 48), (fv 49), (fv 50), (fv 51), (fv 52), (fv 53), (fv 54), (fv 55), (fv 56), (fv 57), (fv 58), .ref (ma 59), .ref (ma 60), (fv 61), (fv 62), .int 0, .int 0, .int 0, .int rv, .ref (ma 67), .ref (ma 68), .ref (ma 69), .int 0, (fv 71), .int so, .ref (ma 73)]))] := hD
  refine lv_aload_n hx hb dX12_fresh_20 rfl (lv_at hl 0 rfl) ?_
  refine lv_iconst (v := 0) hx hb dX12_fresh_21 (by decide) ?_
  refine va_put (D := D) (ci := 12) (v := .int 0) (ty := .int) (C := RX12) (T := TX12) (N := 74) hx hb hT i_TX12 tyX12 tyX12_ok nmX12 hown hK hP hD hS 0 rfl rfl 72 (by decide) (hT _ t_1787) (fun _ h9 => h9) rfl (by decide +kernel) rfl rfl (Nat.le_of_ble_eq_true rfl) dX12_fresh_22 (fun H locs hP hD hS => ?_)
  have hP : va_P D vwCl [(hm, .inr (12, [.int cd, .ref (ma 1), (fv 2), (fv 3), .ref (ma 4), (fv 5), (fv 6), (fv 7), (fv 8), (fv 9), (fv 10), (fv 11), (fv 12), (fv 13), (fv 14), .int 1, (fv 16), .ref (ma 17), .ref (ma 18), .ref (ma 19), .ref (ma 20), .ref (ma 21), .ref (ma 22), .ref (ma 23), .ref (ma 24), .ref (ma 25), .ref (ma 26), .ref (ma 27), .ref (ma 28), .ref (ma 29), .ref (ma 30), .ref (ma 31), .ref (ma 32), .ref (ma 33), .ref (ma 34), .ref (ma 35), .ref (ma 36), .ref (ma 37), .ref (ma 38), .ref (ma 39), .ref (ma 40), .ref (ma 41), .ref (ma 42), .ref (ma 43), .ref (ma 44), .ref (ma 45), .ref (ma 46), .ref (ma 47), .ref (ma 48), (fv 49), (fv 50), (fv 51), (fv 52), (fv 53), (fv 54), (fv 55), (fv 56), (fv 57), (fv 58), .ref (ma 59), .ref (ma 60), (fv 61), (fv 62), .int 0, .int 0, .int 0, .int rv, .ref (ma 67), .ref (ma 68), .ref (ma 69), .int 0, (fv 71), .int 0, .ref (ma 73)]))] H := hP
  have hD : va_D A [(hm, .inr (12, [.int cd, .ref (ma 1), (fv 2), (fv 3), .ref (ma 4), (fv 5), (fv 6), (fv 7), (fv 8), (fv 9), (fv 10), (fv 11), (fv 12), (fv 13), (fv 14), .int 1, (fv 16), .ref (ma 17), .ref (ma 18), .ref (ma 19), .ref (ma 20), .ref (ma 21), .ref (ma 22), .ref (ma 23), .ref (ma 24), .ref (ma 25), .ref (ma 26), .ref (ma 27), .ref (ma 28), .ref (ma 29), .ref (ma 30), .ref (ma 31), .ref (ma 32), .ref (ma 33), .ref (ma 34), .ref (ma 35), .ref (ma 36), .ref (ma 37), .ref (ma 38), .ref (ma 39), .ref (ma 40), .ref (ma 41), .ref (ma 42), .ref (ma 43), .ref (ma 44), .ref (ma 45), .ref (ma 46), .ref (ma 47), .ref (ma 48), (fv 49), (fv 50), (fv 51), (fv 52), (fv 53), (fv 54), (fv 55), (fv 56), (fv 57), (fv 58), .ref (ma 59), .ref (ma 60), (fv 61), (fv 62), .int 0, .int 0, .int 0, .int rv, .ref (ma 67), .ref (ma 68), .ref (ma 69), .int 0, (fv 71), .int 0, .ref (ma 73)]))] := hD
  have hP9 := hP.sub (ws' := [(hm, .inr (12, [.int cd, .ref (ma 1), (fv 2), (fv 3), .ref (ma 4), (fv 5), (fv 6), (fv 7), (fv 8), (fv 9), (fv 10), (fv 11), (fv 12), (fv 13), (fv 14), .int 1, (fv 16), .ref (ma 17), .ref (ma 18), .ref (ma 19), .ref (ma 20), .ref (ma 21), .ref (ma 22), .ref (ma 23), .ref (ma 24), .ref (ma 25), .ref (ma 26), .ref (ma 27), .ref (ma 28), .ref (ma 29), .ref (ma 30), .ref (ma 31), .ref (ma 32), .ref (ma 33), .ref (ma 34), .ref (ma 35), .ref (ma 36), .ref (ma 37), .ref (ma 38), .ref (ma 39), .ref (ma 40), .ref (ma 41), .ref (ma 42), .ref (ma 43), .ref (ma 44), .ref (ma 45), .ref (ma 46), .ref (ma 47), .ref (ma 48), (fv 49), (fv 50), (fv 51), (fv 52), (fv 53), (fv 54), (fv 55), (fv 56), (fv 57), (fv 58), .ref (ma 59), .ref (ma 60), (fv 61), (fv 62), .int 0, .int 0, .int 0, .int rv, .ref (ma 67), .ref (ma 68), .ref (ma 69), .int 0, (fv 71), .int 0, .ref (ma 73)]))]) [0] rfl
  have hD9 := hD.sub (ws' := [(hm, .inr (12, [.int cd, .ref (ma 1), (fv 2), (fv 3), .ref (ma 4), (fv 5), (fv 6), (fv 7), (fv 8), (fv 9), (fv 10), (fv 11), (fv 12), (fv 13), (fv 14), .int 1, (fv 16), .ref (ma 17), .ref (ma 18), .ref (ma 19), .ref (ma 20), .ref (ma 21), .ref (ma 22), .ref (ma 23), .ref (ma 24), .ref (ma 25), .ref (ma 26), .ref (ma 27), .ref (ma 28), .ref (ma 29), .ref (ma 30), .ref (ma 31), .ref (ma 32), .ref (ma 33), .ref (ma 34), .ref (ma 35), .ref (ma 36), .ref (ma 37), .ref (ma 38), .ref (ma 39), .ref (ma 40), .ref (ma 41), .ref (ma 42), .ref (ma 43), .ref (ma 44), .ref (ma 45), .ref (ma 46), .ref (ma 47), .ref (ma 48), (fv 49), (fv 50), (fv 51), (fv 52), (fv 53), (fv 54), (fv 55), (fv 56), (fv 57), (fv 58), .ref (ma 59), .ref (ma 60), (fv 61), (fv 62), .int 0, .int 0, .int 0, .int rv, .ref (ma 67), .ref (ma 68), .ref (ma 69), .int 0, (fv 71), .int 0, .ref (ma 73)]))]) [0] (by decide) rfl
  refine W.widen (k := 0) (n := 0) (Nat.le_of_ble_eq_true rfl) (Nat.le_of_ble_eq_true rfl) ?_
  exact W.vret hx hb hr (fun t ht hW => ⟨⟨(), rfl, trivial, by rw [ht]; exact hP9, hD9⟩, hS.F ht⟩) hS.2.2 dX12_fresh_25

set_option maxHeartbeats 4000000 in
set_option maxRecDepth 100000 in
theorem d_begin (l : Launch) (D : va_G) (cy : Nat → ClassId) (sz : Nat) (hm : Nat) (ma : Nat → Nat) (fv : Nat → Value) (kf : Nat → Int32) (af : Nat → Int32) (nf : Nat → Int64) (tm : Nat → Int32) (mkf : Nat → Int32) (mnf : Nat → Int64) (mbf : Nat → Int32) (ttf : Nat → Int32) (kn : Nat → Nat) (nn : Nat) (se : Nat) (tt : Nat) (bb : Nat) (ss : Nat) (nm : Int64) (st : Nat) (dp : Nat) (rv : Int32) (cd : Int32) (md : Int32) (hf : Int32) (mb : Nat) (ms : Nat) (mx : Nat) (ym : Nat → Int32) (mpf : Nat → Int32) (tsf : Nat → Int32) (tuf : Nat → Int32) (mtf : Nat → Int32) (mlf : Nat → Int32) (ccf : Nat → Int32) (prf : Nat → Int32) (hk : Mk kf af nf tm mkf mbf ym mpf tuf mtf mlf nm mb ms mx) (hts0 : tsf 8 = 0) : Met l yX12_begin (.code yX12_begin cX12_begin 7 none :: TB) ({ frames := 0, cells := 0, slots := 0, locals := 0 }) (va_Pc [.ref hm, .int 8] (fun U => U.heap.size = sz ∧ va_P D vwCl [(hm, .inr (12, [.int cd, .ref (ma 1), (fv 2), (fv 3), .ref (ma 4), (fv 5), (fv 6), (fv 7), (fv 8), (fv 9), (fv 10), (fv 11), (fv 12), (fv 13), (fv 14), .int 1, (fv 16), .ref (ma 17), .ref (ma 18), .ref (ma 19), .ref (ma 20), .ref (ma 21), .ref (ma 22), .ref (ma 23), .ref (ma 24), .ref (ma 25), .ref (ma 26), .ref (ma 27), .ref (ma 28), .ref (ma 29), .ref (ma 30), .ref (ma 31), .ref (ma 32), .ref (ma 33), .ref (ma 34), .ref (ma 35), .ref (ma 36), .ref (ma 37), .ref (ma 38), .ref (ma 39), .ref (ma 40), .ref (ma 41), .ref (ma 42), .ref (ma 43), .ref (ma 44), .ref (ma 45), .ref (ma 46), .ref (ma 47), .ref (ma 48), (fv 49), (fv 50), (fv 51), (fv 52), (fv 53), (fv 54), (fv 55), (fv 56), (fv 57), (fv 58), .ref (ma 59), .ref (ma 60), (fv 61), (fv 62), .int (nI 1), .int (nI 0), .int 0, .int rv, .ref (ma 67), .ref (ma 68), .ref (ma 69), .int 0, (fv 71), .int (nI 0), .ref (ma 73)])), ((ma 39), .inl (cy 1, 3400, .inl kf)), ((ma 40), .inl (cy 1, 3400, .inl af)), ((ma 46), .inl (cy 2, 3400, .inr (.inl nf))), ((ma 23), .inl (cy 1, 16, .inl tm)), ((ma 24), .inl (cy 1, 128, .inl mkf)), ((ma 25), .inl (cy 2, 128, .inr (.inl mnf))), ((ma 29), .inl (cy 1, 128, .inl mbf)), ((ma 68), .inl (cy 1, 210, .inl ttf)), ((ma 17), .inl (cy 1, 2, .inl ym)), ((ma 30), .inl (cy 1, 128, .inl mpf)), ((ma 59), .inl (cy 1, 16, .inl tsf)), ((ma 22), .inl (cy 1, 16, .inl tuf)), ((ma 37), .inl (cy 1, 128, .inl mtf)), ((ma 33), .inl (cy 1, 128, .inl mlf)), ((ma 69), .inl (cy 1, 13440, .inl ccf)), ((ma 67), .inl (cy 1, 78, .inl prf))] U.heap ∧ va_K D vwCl (TY cy) U ∧ va_D (fun _ => True) [(hm, .inr (12, [.int cd, .ref (ma 1), (fv 2), (fv 3), .ref (ma 4), (fv 5), (fv 6), (fv 7), (fv 8), (fv 9), (fv 10), (fv 11), (fv 12), (fv 13), (fv 14), .int 1, (fv 16), .ref (ma 17), .ref (ma 18), .ref (ma 19), .ref (ma 20), .ref (ma 21), .ref (ma 22), .ref (ma 23), .ref (ma 24), .ref (ma 25), .ref (ma 26), .ref (ma 27), .ref (ma 28), .ref (ma 29), .ref (ma 30), .ref (ma 31), .ref (ma 32), .ref (ma 33), .ref (ma 34), .ref (ma 35), .ref (ma 36), .ref (ma 37), .ref (ma 38), .ref (ma 39), .ref (ma 40), .ref (ma 41), .ref (ma 42), .ref (ma 43), .ref (ma 44), .ref (ma 45), .ref (ma 46), .ref (ma 47), .ref (ma 48), (fv 49), (fv 50), (fv 51), (fv 52), (fv 53), (fv 54), (fv 55), (fv 56), (fv 57), (fv 58), .ref (ma 59), .ref (ma 60), (fv 61), (fv 62), .int (nI 1), .int (nI 0), .int 0, .int rv, .ref (ma 67), .ref (ma 68), .ref (ma 69), .int 0, (fv 71), .int (nI 0), .ref (ma 73)])), ((ma 39), .inl (cy 1, 3400, .inl kf)), ((ma 40), .inl (cy 1, 3400, .inl af)), ((ma 46), .inl (cy 2, 3400, .inr (.inl nf))), ((ma 23), .inl (cy 1, 16, .inl tm)), ((ma 24), .inl (cy 1, 128, .inl mkf)), ((ma 25), .inl (cy 2, 128, .inr (.inl mnf))), ((ma 29), .inl (cy 1, 128, .inl mbf)), ((ma 68), .inl (cy 1, 210, .inl ttf)), ((ma 17), .inl (cy 1, 2, .inl ym)), ((ma 30), .inl (cy 1, 128, .inl mpf)), ((ma 59), .inl (cy 1, 16, .inl tsf)), ((ma 22), .inl (cy 1, 16, .inl tuf)), ((ma 37), .inl (cy 1, 128, .inl mtf)), ((ma 33), .inl (cy 1, 128, .inl mlf)), ((ma 69), .inl (cy 1, 13440, .inl ccf)), ((ma 67), .inl (cy 1, 78, .inl prf))])) (va_Qv (fun (u : Nat → Int32) => True) (fun (u : Nat → Int32) t => va_P D vwCl [(hm, .inr (12, [.int cd, .ref (ma 1), (fv 2), (fv 3), .ref (ma 4), (fv 5), (fv 6), (fv 7), (fv 8), (fv 9), (fv 10), (fv 11), (fv 12), (fv 13), (fv 14), .int 1, (fv 16), .ref (ma 17), .ref (ma 18), .ref (ma 19), .ref (ma 20), .ref (ma 21), .ref (ma 22), .ref (ma 23), .ref (ma 24), .ref (ma 25), .ref (ma 26), .ref (ma 27), .ref (ma 28), .ref (ma 29), .ref (ma 30), .ref (ma 31), .ref (ma 32), .ref (ma 33), .ref (ma 34), .ref (ma 35), .ref (ma 36), .ref (ma 37), .ref (ma 38), .ref (ma 39), .ref (ma 40), .ref (ma 41), .ref (ma 42), .ref (ma 43), .ref (ma 44), .ref (ma 45), .ref (ma 46), .ref (ma 47), .ref (ma 48), (fv 49), (fv 50), (fv 51), (fv 52), (fv 53), (fv 54), (fv 55), (fv 56), (fv 57), (fv 58), .ref (ma 59), .ref (ma 60), (fv 61), (fv 62), .int (nI 1), .int (nI 0), .int 0, .int rv, .ref (ma 67), .ref (ma 68), .ref (ma 69), .int 0, (fv 71), .int (nI 0), .ref (ma 73)])), ((ma 39), .inl (cy 1, 3400, .inl kf)), ((ma 40), .inl (cy 1, 3400, .inl af)), ((ma 46), .inl (cy 2, 3400, .inr (.inl nf))), ((ma 23), .inl (cy 1, 16, .inl tm)), ((ma 24), .inl (cy 1, 128, .inl mkf)), ((ma 25), .inl (cy 2, 128, .inr (.inl mnf))), ((ma 29), .inl (cy 1, 128, .inl mbf)), ((ma 68), .inl (cy 1, 210, .inl ttf)), ((ma 17), .inl (cy 1, 2, .inl ym)), ((ma 30), .inl (cy 1, 128, .inl mpf)), ((ma 59), .inl (cy 1, 16, .inl u)), ((ma 22), .inl (cy 1, 16, .inl tuf)), ((ma 37), .inl (cy 1, 128, .inl mtf)), ((ma 33), .inl (cy 1, 128, .inl mlf)), ((ma 69), .inl (cy 1, 13440, .inl ccf)), ((ma 67), .inl (cy 1, 78, .inl prf))] t.heap ∧ va_D (va_A [(hm, .inr (12, [.int cd, .ref (ma 1), (fv 2), (fv 3), .ref (ma 4), (fv 5), (fv 6), (fv 7), (fv 8), (fv 9), (fv 10), (fv 11), (fv 12), (fv 13), (fv 14), .int 1, (fv 16), .ref (ma 17), .ref (ma 18), .ref (ma 19), .ref (ma 20), .ref (ma 21), .ref (ma 22), .ref (ma 23), .ref (ma 24), .ref (ma 25), .ref (ma 26), .ref (ma 27), .ref (ma 28), .ref (ma 29), .ref (ma 30), .ref (ma 31), .ref (ma 32), .ref (ma 33), .ref (ma 34), .ref (ma 35), .ref (ma 36), .ref (ma 37), .ref (ma 38), .ref (ma 39), .ref (ma 40), .ref (ma 41), .ref (ma 42), .ref (ma 43), .ref (ma 44), .ref (ma 45), .ref (ma 46), .ref (ma 47), .ref (ma 48), (fv 49), (fv 50), (fv 51), (fv 52), (fv 53), (fv 54), (fv 55), (fv 56), (fv 57), (fv 58), .ref (ma 59), .ref (ma 60), (fv 61), (fv 62), .int (nI 1), .int (nI 0), .int 0, .int rv, .ref (ma 67), .ref (ma 68), .ref (ma 69), .int 0, (fv 71), .int (nI 0), .ref (ma 73)])), ((ma 39), .inl (cy 1, 3400, .inl kf)), ((ma 40), .inl (cy 1, 3400, .inl af)), ((ma 46), .inl (cy 2, 3400, .inr (.inl nf))), ((ma 23), .inl (cy 1, 16, .inl tm)), ((ma 24), .inl (cy 1, 128, .inl mkf)), ((ma 25), .inl (cy 2, 128, .inr (.inl mnf))), ((ma 29), .inl (cy 1, 128, .inl mbf)), ((ma 68), .inl (cy 1, 210, .inl ttf)), ((ma 17), .inl (cy 1, 2, .inl ym)), ((ma 30), .inl (cy 1, 128, .inl mpf)), ((ma 59), .inl (cy 1, 16, .inl tsf)), ((ma 22), .inl (cy 1, 16, .inl tuf)), ((ma 37), .inl (cy 1, 128, .inl mtf)), ((ma 33), .inl (cy 1, 128, .inl mlf)), ((ma 69), .inl (cy 1, 13440, .inl ccf)), ((ma 67), .inl (cy 1, 78, .inl prf))] sz) [(hm, .inr (12, [.int cd, .ref (ma 1), (fv 2), (fv 3), .ref (ma 4), (fv 5), (fv 6), (fv 7), (fv 8), (fv 9), (fv 10), (fv 11), (fv 12), (fv 13), (fv 14), .int 1, (fv 16), .ref (ma 17), .ref (ma 18), .ref (ma 19), .ref (ma 20), .ref (ma 21), .ref (ma 22), .ref (ma 23), .ref (ma 24), .ref (ma 25), .ref (ma 26), .ref (ma 27), .ref (ma 28), .ref (ma 29), .ref (ma 30), .ref (ma 31), .ref (ma 32), .ref (ma 33), .ref (ma 34), .ref (ma 35), .ref (ma 36), .ref (ma 37), .ref (ma 38), .ref (ma 39), .ref (ma 40), .ref (ma 41), .ref (ma 42), .ref (ma 43), .ref (ma 44), .ref (ma 45), .ref (ma 46), .ref (ma 47), .ref (ma 48), (fv 49), (fv 50), (fv 51), (fv 52), (fv 53), (fv 54), (fv 55), (fv 56), (fv 57), (fv 58), .ref (ma 59), .ref (ma 60), (fv 61), (fv 62), .int (nI 1), .int (nI 0), .int 0, .int rv, .ref (ma 67), .ref (ma 68), .ref (ma 69), .int 0, (fv 71), .int (nI 0), .ref (ma 73)])), ((ma 39), .inl (cy 1, 3400, .inl kf)), ((ma 40), .inl (cy 1, 3400, .inl af)), ((ma 46), .inl (cy 2, 3400, .inr (.inl nf))), ((ma 23), .inl (cy 1, 16, .inl tm)), ((ma 24), .inl (cy 1, 128, .inl mkf)), ((ma 25), .inl (cy 2, 128, .inr (.inl mnf))), ((ma 29), .inl (cy 1, 128, .inl mbf)), ((ma 68), .inl (cy 1, 210, .inl ttf)), ((ma 17), .inl (cy 1, 2, .inl ym)), ((ma 30), .inl (cy 1, 128, .inl mpf)), ((ma 59), .inl (cy 1, 16, .inl u)), ((ma 22), .inl (cy 1, 16, .inl tuf)), ((ma 37), .inl (cy 1, 128, .inl mtf)), ((ma 33), .inl (cy 1, 128, .inl mlf)), ((ma 69), .inl (cy 1, 13440, .inl ccf)), ((ma 67), .inl (cy 1, 78, .inl prf))]) (va_A [(hm, .inr (12, [.int cd, .ref (ma 1), (fv 2), (fv 3), .ref (ma 4), (fv 5), (fv 6), (fv 7), (fv 8), (fv 9), (fv 10), (fv 11), (fv 12), (fv 13), (fv 14), .int 1, (fv 16), .ref (ma 17), .ref (ma 18), .ref (ma 19), .ref (ma 20), .ref (ma 21), .ref (ma 22), .ref (ma 23), .ref (ma 24), .ref (ma 25), .ref (ma 26), .ref (ma 27), .ref (ma 28), .ref (ma 29), .ref (ma 30), .ref (ma 31), .ref (ma 32), .ref (ma 33), .ref (ma 34), .ref (ma 35), .ref (ma 36), .ref (ma 37), .ref (ma 38), .ref (ma 39), .ref (ma 40), .ref (ma 41), .ref (ma 42), .ref (ma 43), .ref (ma 44), .ref (ma 45), .ref (ma 46), .ref (ma 47), .ref (ma 48), (fv 49), (fv 50), (fv 51), (fv 52), (fv 53), (fv 54), (fv 55), (fv 56), (fv 57), (fv 58), .ref (ma 59), .ref (ma 60), (fv 61), (fv 62), .int (nI 1), .int (nI 0), .int 0, .int rv, .ref (ma 67), .ref (ma 68), .ref (ma 69), .int 0, (fv 71), .int (nI 0), .ref (ma 73)])), ((ma 39), .inl (cy 1, 3400, .inl kf)), ((ma 40), .inl (cy 1, 3400, .inl af)), ((ma 46), .inl (cy 2, 3400, .inr (.inl nf))), ((ma 23), .inl (cy 1, 16, .inl tm)), ((ma 24), .inl (cy 1, 128, .inl mkf)), ((ma 25), .inl (cy 2, 128, .inr (.inl mnf))), ((ma 29), .inl (cy 1, 128, .inl mbf)), ((ma 68), .inl (cy 1, 210, .inl ttf)), ((ma 17), .inl (cy 1, 2, .inl ym)), ((ma 30), .inl (cy 1, 128, .inl mpf)), ((ma 59), .inl (cy 1, 16, .inl tsf)), ((ma 22), .inl (cy 1, 16, .inl tuf)), ((ma 37), .inl (cy 1, 128, .inl mtf)), ((ma 33), .inl (cy 1, 128, .inl mlf)), ((ma 69), .inl (cy 1, 13440, .inl ccf)), ((ma 67), .inl (cy 1, 78, .inl prf))] sz)) 0 0 (va_A [(hm, .inr (12, [.int cd, .ref (ma 1), (fv 2), (fv 3), .ref (ma 4), (fv 5), (fv 6), (fv 7), (fv 8), (fv 9), (fv 10), (fv 11), (fv 12), (fv 13), (fv 14), .int 1, (fv 16), .ref (ma 17), .ref (ma 18), .ref (ma 19), .ref (ma 20), .ref (ma 21), .ref (ma 22), .ref (ma 23), .ref (ma 24), .ref (ma 25), .ref (ma 26), .ref (ma 27), .ref (ma 28), .ref (ma 29), .ref (ma 30), .ref (ma 31), .ref (ma 32), .ref (ma 33), .ref (ma 34), .ref (ma 35), .ref (ma 36), .ref (ma 37), .ref (ma 38), .ref (ma 39), .ref (ma 40), .ref (ma 41), .ref (ma 42), .ref (ma 43), .ref (ma 44), .ref (ma 45), .ref (ma 46), .ref (ma 47), .ref (ma 48), (fv 49), (fv 50), (fv 51), (fv 52), (fv 53), (fv 54), (fv 55), (fv 56), (fv 57), (fv 58), .ref (ma 59), .ref (ma 60), (fv 61), (fv 62), .int (nI 1), .int (nI 0), .int 0, .int rv, .ref (ma 67), .ref (ma 68), .ref (ma 69), .int 0, (fv 71), .int (nI 0), .ref (ma 73)])), ((ma 39), .inl (cy 1, 3400, .inl kf)), ((ma 40), .inl (cy 1, 3400, .inl af)), ((ma 46), .inl (cy 2, 3400, .inr (.inl nf))), ((ma 23), .inl (cy 1, 16, .inl tm)), ((ma 24), .inl (cy 1, 128, .inl mkf)), ((ma 25), .inl (cy 2, 128, .inr (.inl mnf))), ((ma 29), .inl (cy 1, 128, .inl mbf)), ((ma 68), .inl (cy 1, 210, .inl ttf)), ((ma 17), .inl (cy 1, 2, .inl ym)), ((ma 30), .inl (cy 1, 128, .inl mpf)), ((ma 59), .inl (cy 1, 16, .inl tsf)), ((ma 22), .inl (cy 1, 16, .inl tuf)), ((ma 37), .inl (cy 1, 128, .inl mtf)), ((ma 33), .inl (cy 1, 128, .inl mlf)), ((ma 69), .inl (cy 1, 13440, .inl ccf)), ((ma 67), .inl (cy 1, 78, .inl prf))] sz) := by
  refine Met.ofW (cc := cX12_begin) (maxL := 7) (ret := none) (by decide) rfl ?_
  intro p e s m args below meth c s₁ B hml hv
  obtain ⟨rfl, hsz, hP, hK, hD0⟩ := hv
  have hx := B.exec
  have hb := B.bytes
  have hr := B.returns
  have hts := atoms_spec (ws := .code yX12_begin cX12_begin 7 none :: TB) B.pre
  have hT : ∀ w ∈ TB, w.before _ s = true := fun w h => hts w (List.mem_cons_of_mem _ h)
  have hown : s.vm.findClass "MakerStartsModel" = some m.cls := findClass_of_methodNamed B.named
  have hlocks := B.notSynchronized
  subst hsz
  have hD := hD0.self (sz := s.heap.size)
  generalize hAe : va_A [(hm, .inr (12, [.int cd, .ref (ma 1), (fv 2), (fv 3), .ref (ma 4), (fv 5), (fv 6), (fv 7), (fv 8), (fv 9), (fv 10), (fv 11), (fv 12), (fv 13), (fv 14), .int 1, (fv 16), .ref (ma 17), .ref (ma 18), .ref (ma 19), .ref (ma 20), .ref (ma 21), .ref (ma 22), .ref (ma 23), .ref (ma 24), .ref (ma 25), .ref (ma 26), .ref (ma 27), .ref (ma 28), .ref (ma 29), .ref (ma 30), .ref (ma 31), .ref (ma 32), .ref (ma 33), .ref (ma 34), .ref (ma 35), .ref (ma 36), .ref (ma 37), .ref (ma 38), .ref (ma 39), .ref (ma 40), .ref (ma 41), .ref (ma 42), .ref (ma 43), .ref (ma 44), .ref (ma 45), .ref (ma 46), .ref (ma 47), .ref (ma 48), (fv 49), (fv 50), (fv 51), (fv 52), (fv 53), (fv 54), (fv 55), (fv 56), (fv 57), (fv 58), .ref (ma 59), .ref (ma 60), (fv 61), (fv 62), .int (nI 1), .int (nI 0), .int 0, .int rv, .ref (ma 67), .ref (ma 68), .ref (ma 69), .int 0, (fv 71), .int (nI 0), .ref (ma 73)])), ((ma 39), .inl (cy 1, 3400, .inl kf)), ((ma 40), .inl (cy 1, 3400, .inl af)), ((ma 46), .inl (cy 2, 3400, .inr (.inl nf))), ((ma 23), .inl (cy 1, 16, .inl tm)), ((ma 24), .inl (cy 1, 128, .inl mkf)), ((ma 25), .inl (cy 2, 128, .inr (.inl mnf))), ((ma 29), .inl (cy 1, 128, .inl mbf)), ((ma 68), .inl (cy 1, 210, .inl ttf)), ((ma 17), .inl (cy 1, 2, .inl ym)), ((ma 30), .inl (cy 1, 128, .inl mpf)), ((ma 59), .inl (cy 1, 16, .inl tsf)), ((ma 22), .inl (cy 1, 16, .inl tuf)), ((ma 37), .inl (cy 1, 128, .inl mtf)), ((ma 33), .inl (cy 1, 128, .inl mlf)), ((ma 69), .inl (cy 1, 13440, .inl ccf)), ((ma 67), .inl (cy 1, 78, .inl prf))] s.heap.size = A at hD  ⊢
  have hA : ∀ q : Nat, s.heap.size ≤ q → A q := fun q h => by rw [← hAe]; exact Or.inr h
  have hS : va_S A s.heap s.heap [] := va_S.rf
  have hP : va_P D vwCl [(hm, .inr (12, [.int cd, .ref (ma 1), (fv 2), (fv 3), .ref (ma 4), (fv 5), (fv 6), (fv 7), (fv 8), (fv 9), (fv 10), (fv 11), (fv 12), (fv 13), (fv 14), .int 1, (fv 16), .ref (ma 17), .ref (ma 18), .ref (ma 19), .ref (ma 20), .ref (ma 21), .ref (ma 22), .ref (ma 23), .ref (ma 24), .ref (ma 25), .ref (ma 26), .ref (ma 27), .ref (ma 28), .ref (ma 29), .ref (ma 30), .ref (ma 31), .ref (ma 32), .ref (ma 33), .ref (ma 34), .ref (ma 35), .ref (ma 36), .ref (ma 37), .ref (ma 38), .ref (ma 39), .ref (ma 40), .ref (ma 41), .ref (ma 42), .ref (ma 43), .ref (ma 44), .ref (ma 45), .ref (ma 46), .ref (ma 47), .ref (ma 48), (fv 49), (fv 50), (fv 51), (fv 52), (fv 53), (fv 54), (fv 55), (fv 56), (fv 57), (fv 58), .ref (ma 59), .ref (ma 60), (fv 61), (fv 62), .int (nI 1), .int (nI 0), .int 0, .int rv, .ref (ma 67), .ref (ma 68), .ref (ma 69), .int 0, (fv 71), .int (nI 0), .ref (ma 73)])), ((ma 39), .inl (cy 1, 3400, .inl kf)), ((ma 40), .inl (cy 1, 3400, .inl af)), ((ma 46), .inl (cy 2, 3400, .inr (.inl nf))), ((ma 23), .inl (cy 1, 16, .inl tm)), ((ma 24), .inl (cy 1, 128, .inl mkf)), ((ma 25), .inl (cy 2, 128, .inr (.inl mnf))), ((ma 29), .inl (cy 1, 128, .inl mbf)), ((ma 68), .inl (cy 1, 210, .inl ttf)), ((ma 17), .inl (cy 1, 2, .inl ym)), ((ma 30), .inl (cy 1, 128, .inl mpf)), ((ma 59), .inl (cy 1, 16, .inl tsf)), ((ma 22), .inl (cy 1, 16, .inl tuf)), ((ma 37), .inl (cy 1, 128, .inl mtf)), ((ma 33), .inl (cy 1, 128, .inl mlf)), ((ma 69), .inl (cy 1, 13440, .inl ccf)), ((ma 67), .inl (cy 1, 78, .inl prf))] s.heap := hP
  have hl := lv_entry ([.ref hm, .int 8]) (n := 7) (Nat.le_of_ble_eq_true rfl)
  rw [lg_entry_eq]
  generalize (lg_sl ([.ref hm, .int 8]) ++ List.replicate (7 - (lg_sl ([.ref hm, .int 8])).length) Slot.unset).toArray = ls at hl ⊢
  have hl : lv_has ls 7 [(0, .ref hm), (1, .int 8)] := hl
  obtain ⟨kym, ktm, kk0, kk1, kmp, ktu, kmt, kml, kmb, kbb, kab, kss0, kss, kks, kas, kxx, kkx, knx⟩ := hk
  refine lv_aload_n hx hb dX12_begin_0 rfl (lv_at hl 0 rfl) ?_
  refine va_get (D := D) (ci := 12) (v := .int 0) (C := RX12) (T := TX12) (N := 74) hx hb hT i_TX12 hown hK hP 0 rfl rfl 65 (by decide) (hT _ t_1780) (fun _ h9 => h9) rfl dX12_begin_1 ?_
  refine lv_if_ne (tgt := 17) hx hb dX12_begin_4 (by decide) (fun c9 => absurd (by decide) c9) (fun _ => ?_)
  refine lv_aload_n hx hb dX12_begin_7 rfl (lv_at hl 0 rfl) ?_
  refine va_get (D := D) (ci := 12) (v := .ref (ma 59)) (C := RX12) (T := TX12) (N := 74) hx hb hT i_TX12 hown hK hP 0 rfl rfl 59 (by decide) (hT _ t_1774) (fun _ h9 => h9) rfl dX12_begin_8 ?_
  refine lv_iload_n hx hb dX12_begin_11 rfl (lv_at hl 1 rfl) ?_
  refine va_iald hx hb hK hP 11 1 rfl rfl (vp_in_iff.mpr (by decide)) dX12_begin_12 ?_
  refine lv_topi (fun z1 e2 => ?_)
  obtain rfl : z1 = 0 := e2.trans hts0
  refine lv_iconst (v := 1) hx hb dX12_begin_13 (by decide) ?_
  refine lv_icmp_ne (tgt := 18) hx hb dX12_begin_14 (by decide) (fun _ => ?_) (fun c9 => absurd c9 (by decide))
  refine lv_aload_n hx hb dX12_begin_18 rfl (lv_at hl 0 rfl) ?_
  refine va_get (D := D) (ci := 12) (v := .ref (ma 59)) (C := RX12) (T := TX12) (N := 74) hx hb hT i_TX12 hown hK hP 0 rfl rfl 59 (by decide) (hT _ t_1774) (fun _ h9 => h9) rfl dX12_begin_19 ?_
  refine lv_iload_n hx hb dX12_begin_22 rfl (lv_at hl 1 rfl) ?_
  refine va_iald hx hb hK hP 11 1 rfl rfl (vp_in_iff.mpr (by decide)) dX12_begin_23 ?_
  refine lv_topi (fun z3 e4 => ?_)
  obtain rfl : z3 = 0 := e4.trans hts0
  refine lv_iconst (v := 2) hx hb dX12_begin_24 (by decide) ?_
  refine lv_icmp_ne (tgt := 35) hx hb dX12_begin_25 (by decide) (fun _ => ?_) (fun c9 => absurd c9 (by decide))
  refine lv_aload_n hx hb dX12_begin_35 rfl (lv_at hl 0 rfl) ?_
  refine va_get (D := D) (ci := 12) (v := .ref (ma 59)) (C := RX12) (T := TX12) (N := 74) hx hb hT i_TX12 hown hK hP 0 rfl rfl 59 (by decide) (hT _ t_1774) (fun _ h9 => h9) rfl dX12_begin_36 ?_
  refine lv_iload_n hx hb dX12_begin_39 rfl (lv_at hl 1 rfl) ?_
  refine lv_iconst (v := 1) hx hb dX12_begin_40 (by decide) ?_
  refine va_iast hx hb hK hP hD hS 11 1 rfl rfl (vp_in_iff.mpr (by decide)) dX12_begin_41 (fun H locs hP hD hS => ?_)
  have hP : va_P D vwCl [(hm, .inr (12, [.int cd, .ref (ma 1), (fv 2), (fv 3), .ref (ma 4), (fv 5), (fv 6), (fv 7), (fv 8), (fv 9), (fv 10), (fv 11), (fv 12), (fv 13), (fv 14), .int 1, (fv 16), .ref (ma 17), .ref (ma 18), .ref (ma 19), .ref (ma 20), .ref (ma 21), .ref (ma 22), .ref (ma 23), .ref (ma 24), .ref (ma 25), .ref (ma 26), .ref (ma 27), .ref (ma 28), .ref (ma 29), .ref (ma 30), .ref (ma 31), .ref (ma 32), .ref (ma 33), .ref (ma 34), .ref (ma 35), .ref (ma 36), .ref (ma 37), .ref (ma 38), .ref (ma 39), .ref (ma 40), .ref (ma 41), .ref (ma 42), .ref (ma 43), .ref (ma 44), .ref (ma 45), .ref (ma 46), .ref (ma 47), .ref (ma 48), (fv 49), (fv 50), (fv 51), (fv 52), (fv 53), (fv 54), (fv 55), (fv 56), (fv 57), (fv 58), .ref (ma 59), .ref (ma 60), (fv 61), (fv 62), .int (nI 1), .int (nI 0), .int 0, .int rv, .ref (ma 67), .ref (ma 68), .ref (ma 69), .int 0, (fv 71), .int (nI 0), .ref (ma 73)])), ((ma 39), .inl (cy 1, 3400, .inl kf)), ((ma 40), .inl (cy 1, 3400, .inl af)), ((ma 46), .inl (cy 2, 3400, .inr (.inl nf))), ((ma 23), .inl (cy 1, 16, .inl tm)), ((ma 24), .inl (cy 1, 128, .inl mkf)), ((ma 25), .inl (cy 2, 128, .inr (.inl mnf))), ((ma 29), .inl (cy 1, 128, .inl mbf)), ((ma 68), .inl (cy 1, 210, .inl ttf)), ((ma 17), .inl (cy 1, 2, .inl ym)), ((ma 30), .inl (cy 1, 128, .inl mpf)), ((ma 59), .inl (cy 1, 16, .inl (upd tsf (8 : Int32).toNatClampNeg 1))), ((ma 22), .inl (cy 1, 16, .inl tuf)), ((ma 37), .inl (cy 1, 128, .inl mtf)), ((ma 33), .inl (cy 1, 128, .inl mlf)), ((ma 69), .inl (cy 1, 13440, .inl ccf)), ((ma 67), .inl (cy 1, 78, .inl prf))] H := hP
  have hD : va_D A [(hm, .inr (12, [.int cd, .ref (ma 1), (fv 2), (fv 3), .ref (ma 4), (fv 5), (fv 6), (fv 7), (fv 8), (fv 9), (fv 10), (fv 11), (fv 12), (fv 13), (fv 14), .int 1, (fv 16), .ref (ma 17), .ref (ma 18), .ref (ma 19), .ref (ma 20), .ref (ma 21), .ref (ma 22), .ref (ma 23), .ref (ma 24), .ref (ma 25), .ref (ma 26), .ref (ma 27), .ref (ma 28), .ref (ma 29), .ref (ma 30), .ref (ma 31), .ref (ma 32), .ref (ma 33), .ref (ma 34), .ref (ma 35), .ref (ma 36), .ref (ma 37), .ref (ma 38), .ref (ma 39), .ref (ma 40), .ref (ma 41), .ref (ma 42), .ref (ma 43), .ref (ma 44), .ref (ma 45), .ref (ma 46), .ref (ma 47), .ref (ma 48), (fv 49), (fv 50), (fv 51), (fv 52), (fv 53), (fv 54), (fv 55), (fv 56), (fv 57), (fv 58), .ref (ma 59), .ref (ma 60), (fv 61), (fv 62), .int (nI 1), .int (nI 0), .int 0, .int rv, .ref (ma 67), .ref (ma 68), .ref (ma 69), .int 0, (fv 71), .int (nI 0), .ref (ma 73)])), ((ma 39), .inl (cy 1, 3400, .inl kf)), ((ma 40), .inl (cy 1, 3400, .inl af)), ((ma 46), .inl (cy 2, 3400, .inr (.inl nf))), ((ma 23), .inl (cy 1, 16, .inl tm)), ((ma 24), .inl (cy 1, 128, .inl mkf)), ((ma 25), .inl (cy 2, 128, .inr (.inl mnf))), ((ma 29), .inl (cy 1, 128, .inl mbf)), ((ma 68), .inl (cy 1, 210, .inl ttf)), ((ma 17), .inl (cy 1, 2, .inl ym)), ((ma 30), .inl (cy 1, 128, .inl mpf)), ((ma 59), .inl (cy 1, 16, .inl (upd tsf (8 : Int32).toNatClampNeg 1))), ((ma 22), .inl (cy 1, 16, .inl tuf)), ((ma 37), .inl (cy 1, 128, .inl mtf)), ((ma 33), .inl (cy 1, 128, .inl mlf)), ((ma 69), .inl (cy 1, 13440, .inl ccf)), ((ma 67), .inl (cy 1, 78, .inl prf))] := hD
  generalize hff5 : (upd tsf (8 : Int32).toNatClampNeg 1) = f5 at hP hD
  refine lv_aload_n hx hb dX12_begin_42 rfl (lv_at hl 0 rfl) ?_
  refine va_get (D := D) (ci := 12) (v := .int (nI 0)) (C := RX12) (T := TX12) (N := 74) hx hb hT i_TX12 hown hK hP 0 rfl rfl 72 (by decide) (hT _ t_1787) (fun _ h9 => h9) rfl dX12_begin_43 ?_
  refine lv_istore_n (lv' := [(2, .int (nI 0)), (0, .ref hm), (1, .int 8)]) hx hb dX12_begin_46 rfl hl (by decide) rfl (fun ls hl => ?_)
  refine lv_aload_n hx hb dX12_begin_47 rfl (lv_at hl 1 rfl) ?_
  refine va_get (D := D) (ci := 12) (v := .ref (ma 22)) (C := RX12) (T := TX12) (N := 74) hx hb hT i_TX12 hown hK hP 0 rfl rfl 22 (by decide) (hT _ t_1737) (fun _ h9 => h9) rfl dX12_begin_48 ?_
  refine lv_iload_n hx hb dX12_begin_51 rfl (lv_at hl 2 rfl) ?_
  refine va_iald hx hb hK hP 12 1 rfl rfl (vp_in_iff.mpr (by decide)) dX12_begin_52 ?_
  refine lv_topi (fun z6 e7 => ?_)
  obtain rfl : z6 = (-1) := e7.trans ktu
  refine lv_iconst (v := (-1)) hx hb dX12_begin_53 (by decide) ?_
  refine lv_icmp_eq (tgt := 67) hx hb dX12_begin_54 (by decide) (fun _ => ?_) (fun c9 => absurd (by decide) c9)
  refine lv_aload_n hx hb dX12_begin_67 rfl (lv_at hl 1 rfl) ?_
  refine va_get (D := D) (ci := 12) (v := .int 0) (C := RX12) (T := TX12) (N := 74) hx hb hT i_TX12 hown hK hP 0 rfl rfl 65 (by decide) (hT _ t_1780) (fun _ h9 => h9) rfl dX12_begin_68 ?_
  refine lv_if_eq (tgt := 78) hx hb dX12_begin_71 (by decide) (fun _ => ?_) (fun c9 => absurd (by decide) c9)
  refine lv_iconst (v := 0) hx hb dX12_begin_78 (by decide) ?_
  refine lv_istore_n (lv' := [(3, .int 0), (2, .int (nI 0)), (0, .ref hm), (1, .int 8)]) hx hb dX12_begin_79 rfl hl (by decide) rfl (fun ls hl => ?_)
  refine lv_iconst (v := 0) hx hb dX12_begin_80 (by decide) ?_
  refine lv_istore (lv' := [(4, .int 0), (3, .int 0), (2, .int (nI 0)), (0, .ref hm), (1, .int 8)]) hx hb dX12_begin_81 hl (by decide) rfl (fun ls hl => ?_)
  refine lv_iload hx hb dX12_begin_83 (lv_at hl 0 rfl) ?_
  refine lv_aload_n hx hb dX12_begin_85 rfl (lv_at hl 3 rfl) ?_
  refine va_get (D := D) (ci := 12) (v := .ref (ma 23)) (C := RX12) (T := TX12) (N := 74) hx hb hT i_TX12 hown hK hP 0 rfl rfl 23 (by decide) (hT _ t_1738) (fun _ h9 => h9) rfl dX12_begin_86 ?_
  refine lv_iload_n hx hb dX12_begin_89 rfl (lv_at hl 4 rfl) ?_
  refine va_iald hx hb hK hP 4 1 rfl rfl (vp_in_iff.mpr (by decide)) dX12_begin_90 ?_
  refine lv_topi (fun z8 e9 => ?_)
  obtain rfl : z8 = 2 := e9.trans ktm
  refine lv_icmp_ge (tgt := 195) hx hb dX12_begin_91 (by decide) (fun c9 => absurd c9 (by decide)) (fun _ => ?_)
  refine lv_aload_n hx hb dX12_begin_94 rfl (lv_at hl 3 rfl) ?_
  refine va_get (D := D) (ci := 12) (v := .int 0) (C := RX12) (T := TX12) (N := 74) hx hb hT i_TX12 hown hK hP 0 rfl rfl 65 (by decide) (hT _ t_1780) (fun _ h9 => h9) rfl dX12_begin_95 ?_
  refine lv_if_ne (tgt := 195) hx hb dX12_begin_98 (by decide) (fun c9 => absurd (by decide) c9) (fun _ => ?_)
  refine lv_bipush (v := 8) hx hb dX12_begin_101 (by decide) ?_
  refine lv_iload_n hx hb dX12_begin_103 rfl (lv_at hl 4 rfl) ?_
  refine lv_imul hx hb dX12_begin_104 ?_
  refine lv_topi (fun z10 e11 => ?_)
  obtain rfl : z10 = 64 := e11.trans (by first | decide | rfl)
  refine lv_iload hx hb dX12_begin_105 (lv_at hl 0 rfl) ?_
  refine lv_iadd hx hb dX12_begin_107 ?_
  refine lv_topi (fun z12 e13 => ?_)
  obtain rfl : z12 = 64 := e13.trans (by first | decide | rfl)
  refine lv_istore (lv' := [(5, .int 64), (4, .int 0), (3, .int 0), (2, .int (nI 0)), (0, .ref hm), (1, .int 8)]) hx hb dX12_begin_108 hl (by decide) rfl (fun ls hl => ?_)
  refine lv_aload_n hx hb dX12_begin_110 rfl (lv_at hl 4 rfl) ?_
  refine va_get (D := D) (ci := 12) (v := .ref (ma 24)) (C := RX12) (T := TX12) (N := 74) hx hb hT i_TX12 hown hK hP 0 rfl rfl 24 (by decide) (hT _ t_1739) (fun _ h9 => h9) rfl dX12_begin_111 ?_
  refine lv_iload hx hb dX12_begin_114 (lv_at hl 0 rfl) ?_
  refine va_iald hx hb hK hP 5 1 rfl rfl (vp_in_iff.mpr (by decide)) dX12_begin_116 ?_
  refine lv_topi (fun z14 e15 => ?_)
  obtain rfl : z14 = 6 := e15.trans kk0
  refine lv_iconst (v := 2) hx hb dX12_begin_117 (by decide) ?_
  refine lv_icmp_ne (tgt := 164) hx hb dX12_begin_118 (by decide) (fun _ => ?_) (fun c9 => absurd c9 (by decide))
  refine lv_aload_n hx hb dX12_begin_164 rfl (lv_at hl 4 rfl) ?_
  refine va_get (D := D) (ci := 12) (v := .ref (ma 24)) (C := RX12) (T := TX12) (N := 74) hx hb hT i_TX12 hown hK hP 0 rfl rfl 24 (by decide) (hT _ t_1739) (fun _ h9 => h9) rfl dX12_begin_165 ?_
  refine lv_iload hx hb dX12_begin_168 (lv_at hl 0 rfl) ?_
  refine va_iald hx hb hK hP 5 1 rfl rfl (vp_in_iff.mpr (by decide)) dX12_begin_170 ?_
  refine lv_topi (fun z16 e17 => ?_)
  obtain rfl : z16 = 6 := e17.trans kk0
  refine lv_iconst (v := 4) hx hb dX12_begin_171 (by decide) ?_
  refine lv_icmp_ne (tgt := 189) hx hb dX12_begin_172 (by decide) (fun _ => ?_) (fun c9 => absurd c9 (by decide))
  refine lv_iinc (v := 1) (lv' := [(4, .int 1), (5, .int 64), (3, .int 0), (2, .int (nI 0)), (0, .ref hm), (1, .int 8)]) hx hb dX12_begin_189 hl (k := 1) rfl (by decide) (by decide) rfl (fun ls hl => ?_)
  refine lv_goto (tgt := 83) hx hb dX12_begin_192 (by decide) ?_
  refine lv_iload hx hb dX12_begin_83 (lv_at hl 0 rfl) ?_
  refine lv_aload_n hx hb dX12_begin_85 rfl (lv_at hl 4 rfl) ?_
  refine va_get (D := D) (ci := 12) (v := .ref (ma 23)) (C := RX12) (T := TX12) (N := 74) hx hb hT i_TX12 hown hK hP 0 rfl rfl 23 (by decide) (hT _ t_1738) (fun _ h9 => h9) rfl dX12_begin_86 ?_
  refine lv_iload_n hx hb dX12_begin_89 rfl (lv_at hl 5 rfl) ?_
  refine va_iald hx hb hK hP 4 1 rfl rfl (vp_in_iff.mpr (by decide)) dX12_begin_90 ?_
  refine lv_topi (fun z18 e19 => ?_)
  obtain rfl : z18 = 2 := e19.trans ktm
  refine lv_icmp_ge (tgt := 195) hx hb dX12_begin_91 (by decide) (fun c9 => absurd c9 (by decide)) (fun _ => ?_)
  refine lv_aload_n hx hb dX12_begin_94 rfl (lv_at hl 4 rfl) ?_
  refine va_get (D := D) (ci := 12) (v := .int 0) (C := RX12) (T := TX12) (N := 74) hx hb hT i_TX12 hown hK hP 0 rfl rfl 65 (by decide) (hT _ t_1780) (fun _ h9 => h9) rfl dX12_begin_95 ?_
  refine lv_if_ne (tgt := 195) hx hb dX12_begin_98 (by decide) (fun c9 => absurd (by decide) c9) (fun _ => ?_)
  refine lv_bipush (v := 8) hx hb dX12_begin_101 (by decide) ?_
  refine lv_iload_n hx hb dX12_begin_103 rfl (lv_at hl 5 rfl) ?_
  refine lv_imul hx hb dX12_begin_104 ?_
  refine lv_topi (fun z20 e21 => ?_)
  obtain rfl : z20 = 64 := e21.trans (by first | decide | rfl)
  refine lv_iload hx hb dX12_begin_105 (lv_at hl 0 rfl) ?_
  refine lv_iadd hx hb dX12_begin_107 ?_
  refine lv_topi (fun z22 e23 => ?_)
  obtain rfl : z22 = 65 := e23.trans (by first | decide | rfl)
  refine lv_istore (lv' := [(5, .int 65), (4, .int 1), (3, .int 0), (2, .int (nI 0)), (0, .ref hm), (1, .int 8)]) hx hb dX12_begin_108 hl (by decide) rfl (fun ls hl => ?_)
  refine lv_aload_n hx hb dX12_begin_110 rfl (lv_at hl 4 rfl) ?_
  refine va_get (D := D) (ci := 12) (v := .ref (ma 24)) (C := RX12) (T := TX12) (N := 74) hx hb hT i_TX12 hown hK hP 0 rfl rfl 24 (by decide) (hT _ t_1739) (fun _ h9 => h9) rfl dX12_begin_111 ?_
  refine lv_iload hx hb dX12_begin_114 (lv_at hl 0 rfl) ?_
  refine va_iald hx hb hK hP 5 1 rfl rfl (vp_in_iff.mpr (by decide)) dX12_begin_116 ?_
  refine lv_topi (fun z24 e25 => ?_)
  obtain rfl : z24 = 5 := e25.trans kk1
  refine lv_iconst (v := 2) hx hb dX12_begin_117 (by decide) ?_
  refine lv_icmp_ne (tgt := 164) hx hb dX12_begin_118 (by decide) (fun _ => ?_) (fun c9 => absurd c9 (by decide))
  refine lv_aload_n hx hb dX12_begin_164 rfl (lv_at hl 4 rfl) ?_
  refine va_get (D := D) (ci := 12) (v := .ref (ma 24)) (C := RX12) (T := TX12) (N := 74) hx hb hT i_TX12 hown hK hP 0 rfl rfl 24 (by decide) (hT _ t_1739) (fun _ h9 => h9) rfl dX12_begin_165 ?_
  refine lv_iload hx hb dX12_begin_168 (lv_at hl 0 rfl) ?_
  refine va_iald hx hb hK hP 5 1 rfl rfl (vp_in_iff.mpr (by decide)) dX12_begin_170 ?_
  refine lv_topi (fun z26 e27 => ?_)
  obtain rfl : z26 = 5 := e27.trans kk1
  refine lv_iconst (v := 4) hx hb dX12_begin_171 (by decide) ?_
  refine lv_icmp_ne (tgt := 189) hx hb dX12_begin_172 (by decide) (fun _ => ?_) (fun c9 => absurd c9 (by decide))
  refine lv_iinc (v := 2) (lv' := [(4, .int 2), (5, .int 65), (3, .int 0), (2, .int (nI 0)), (0, .ref hm), (1, .int 8)]) hx hb dX12_begin_189 hl (k := 1) rfl (by decide) (by decide) rfl (fun ls hl => ?_)
  refine lv_goto (tgt := 83) hx hb dX12_begin_192 (by decide) ?_
  refine lv_iload hx hb dX12_begin_83 (lv_at hl 0 rfl) ?_
  refine lv_aload_n hx hb dX12_begin_85 rfl (lv_at hl 4 rfl) ?_
  refine va_get (D := D) (ci := 12) (v := .ref (ma 23)) (C := RX12) (T := TX12) (N := 74) hx hb hT i_TX12 hown hK hP 0 rfl rfl 23 (by decide) (hT _ t_1738) (fun _ h9 => h9) rfl dX12_begin_86 ?_
  refine lv_iload_n hx hb dX12_begin_89 rfl (lv_at hl 5 rfl) ?_
  refine va_iald hx hb hK hP 4 1 rfl rfl (vp_in_iff.mpr (by decide)) dX12_begin_90 ?_
  refine lv_topi (fun z28 e29 => ?_)
  obtain rfl : z28 = 2 := e29.trans ktm
  refine lv_icmp_ge (tgt := 195) hx hb dX12_begin_91 (by decide) (fun _ => ?_) (fun c9 => absurd (by decide) c9)
  refine lv_aload_n hx hb dX12_begin_195 rfl (lv_at hl 4 rfl) ?_
  refine lv_iload_n hx hb dX12_begin_196 rfl (lv_at hl 3 rfl) ?_
  refine va_put (D := D) (ci := 12) (v := .int (nI 0)) (ty := .int) (C := RX12) (T := TX12) (N := 74) hx hb hT i_TX12 tyX12 tyX12_ok nmX12 hown hK hP hD hS 0 rfl rfl 72 (by decide) (hT _ t_1787) (fun _ h9 => h9) rfl (by decide +kernel) rfl rfl (Nat.le_of_ble_eq_true rfl) dX12_begin_197 (fun H locs hP hD hS => ?_)
  have hP : va_P D vwCl [(hm, .inr (12, [.int cd, .ref (ma 1), (fv 2), (fv 3), .ref (ma 4), (fv 5), (fv 6), (fv 7), (fv 8), (fv 9), (fv 10), (fv 11), (fv 12), (fv 13), (fv 14), .int 1, (fv 16), .ref (ma 17), .ref (ma 18), .ref (ma 19), .ref (ma 20), .ref (ma 21), .ref (ma 22), .ref (ma 23), .ref (ma 24), .ref (ma 25), .ref (ma 26), .ref (ma 27), .ref (ma 28), .ref (ma 29), .ref (ma 30), .ref (ma 31), .ref (ma 32), .ref (ma 33), .ref (ma 34), .ref (ma 35), .ref (ma 36), .ref (ma 37), .ref (ma 38), .ref (ma 39), .ref (ma 40), .ref (ma 41), .ref (ma 42), .ref (ma 43), .ref (ma 44), .ref (ma 45), .ref (ma 46), .ref (ma 47), .ref (ma 48), (fv 49), (fv 50), (fv 51), (fv 52), (fv 53), (fv 54), (fv 55), (fv 56), (fv 57), (fv 58), .ref (ma 59), .ref (ma 60), (fv 61), (fv 62), .int (nI 1), .int (nI 0), .int 0, .int rv, .ref (ma 67), .ref (ma 68), .ref (ma 69), .int 0, (fv 71), .int (nI 0), .ref (ma 73)])), ((ma 39), .inl (cy 1, 3400, .inl kf)), ((ma 40), .inl (cy 1, 3400, .inl af)), ((ma 46), .inl (cy 2, 3400, .inr (.inl nf))), ((ma 23), .inl (cy 1, 16, .inl tm)), ((ma 24), .inl (cy 1, 128, .inl mkf)), ((ma 25), .inl (cy 2, 128, .inr (.inl mnf))), ((ma 29), .inl (cy 1, 128, .inl mbf)), ((ma 68), .inl (cy 1, 210, .inl ttf)), ((ma 17), .inl (cy 1, 2, .inl ym)), ((ma 30), .inl (cy 1, 128, .inl mpf)), ((ma 59), .inl (cy 1, 16, .inl f5)), ((ma 22), .inl (cy 1, 16, .inl tuf)), ((ma 37), .inl (cy 1, 128, .inl mtf)), ((ma 33), .inl (cy 1, 128, .inl mlf)), ((ma 69), .inl (cy 1, 13440, .inl ccf)), ((ma 67), .inl (cy 1, 78, .inl prf))] H := hP
  have hD : va_D A [(hm, .inr (12, [.int cd, .ref (ma 1), (fv 2), (fv 3), .ref (ma 4), (fv 5), (fv 6), (fv 7), (fv 8), (fv 9), (fv 10), (fv 11), (fv 12), (fv 13), (fv 14), .int 1, (fv 16), .ref (ma 17), .ref (ma 18), .ref (ma 19), .ref (ma 20), .ref (ma 21), .ref (ma 22), .ref (ma 23), .ref (ma 24), .ref (ma 25), .ref (ma 26), .ref (ma 27), .ref (ma 28), .ref (ma 29), .ref (ma 30), .ref (ma 31), .ref (ma 32), .ref (ma 33), .ref (ma 34), .ref (ma 35), .ref (ma 36), .ref (ma 37), .ref (ma 38), .ref (ma 39), .ref (ma 40), .ref (ma 41), .ref (ma 42), .ref (ma 43), .ref (ma 44), .ref (ma 45), .ref (ma 46), .ref (ma 47), .ref (ma 48), (fv 49), (fv 50), (fv 51), (fv 52), (fv 53), (fv 54), (fv 55), (fv 56), (fv 57), (fv 58), .ref (ma 59), .ref (ma 60), (fv 61), (fv 62), .int (nI 1), .int (nI 0), .int 0, .int rv, .ref (ma 67), .ref (ma 68), .ref (ma 69), .int 0, (fv 71), .int (nI 0), .ref (ma 73)])), ((ma 39), .inl (cy 1, 3400, .inl kf)), ((ma 40), .inl (cy 1, 3400, .inl af)), ((ma 46), .inl (cy 2, 3400, .inr (.inl nf))), ((ma 23), .inl (cy 1, 16, .inl tm)), ((ma 24), .inl (cy 1, 128, .inl mkf)), ((ma 25), .inl (cy 2, 128, .inr (.inl mnf))), ((ma 29), .inl (cy 1, 128, .inl mbf)), ((ma 68), .inl (cy 1, 210, .inl ttf)), ((ma 17), .inl (cy 1, 2, .inl ym)), ((ma 30), .inl (cy 1, 128, .inl mpf)), ((ma 59), .inl (cy 1, 16, .inl f5)), ((ma 22), .inl (cy 1, 16, .inl tuf)), ((ma 37), .inl (cy 1, 128, .inl mtf)), ((ma 33), .inl (cy 1, 128, .inl mlf)), ((ma 69), .inl (cy 1, 13440, .inl ccf)), ((ma 67), .inl (cy 1, 78, .inl prf))] := hD
  refine lv_aload_n hx hb dX12_begin_200 rfl (lv_at hl 4 rfl) ?_
  refine va_get (D := D) (ci := 12) (v := .int 0) (C := RX12) (T := TX12) (N := 74) hx hb hT i_TX12 hown hK hP 0 rfl rfl 65 (by decide) (hT _ t_1780) (fun _ h9 => h9) rfl dX12_begin_201 ?_
  refine lv_if_eq (tgt := 240) hx hb dX12_begin_204 (by decide) (fun _ => ?_) (fun c9 => absurd (by decide) c9)
  have hP : va_P D vwCl [(hm, .inr (12, [.int cd, .ref (ma 1), (fv 2), (fv 3), .ref (ma 4), (fv 5), (fv 6), (fv 7), (fv 8), (fv 9), (fv 10), (fv 11), (fv 12), (fv 13), (fv 14), .int 1, (fv 16), .ref (ma 17), .ref (ma 18), .ref (ma 19), .ref (ma 20), .ref (ma 21), .ref (ma 22), .ref (ma 23), .ref (ma 24), .ref (ma 25), .ref (ma 26), .ref (ma 27), .ref (ma 28), .ref (ma 29), .ref (ma 30), .ref (ma 31), .ref (ma 32), .ref (ma 33), .ref (ma 34), .ref (ma 35), .ref (ma 36), .ref (ma 37), .ref (ma 38), .ref (ma 39), .ref (ma 40), .ref (ma 41), .ref (ma 42), .ref (ma 43), .ref (ma 44), .ref (ma 45), .ref (ma 46), .ref (ma 47), .ref (ma 48), (fv 49), (fv 50), (fv 51), (fv 52), (fv 53), (fv 54), (fv 55), (fv 56), (fv 57), (fv 58), .ref (ma 59), .ref (ma 60), (fv 61), (fv 62), .int (nI 1), .int (nI 0), .int 0, .int rv, .ref (ma 67), .ref (ma 68), .ref (ma 69), .int 0, (fv 71), .int (nI 0), .ref (ma 73)])), ((ma 39), .inl (cy 1, 3400, .inl kf)), ((ma 40), .inl (cy 1, 3400, .inl af)), ((ma 46), .inl (cy 2, 3400, .inr (.inl nf))), ((ma 23), .inl (cy 1, 16, .inl tm)), ((ma 24), .inl (cy 1, 128, .inl mkf)), ((ma 25), .inl (cy 2, 128, .inr (.inl mnf))), ((ma 29), .inl (cy 1, 128, .inl mbf)), ((ma 68), .inl (cy 1, 210, .inl ttf)), ((ma 17), .inl (cy 1, 2, .inl ym)), ((ma 30), .inl (cy 1, 128, .inl mpf)), ((ma 59), .inl (cy 1, 16, .inl f5)), ((ma 22), .inl (cy 1, 16, .inl tuf)), ((ma 37), .inl (cy 1, 128, .inl mtf)), ((ma 33), .inl (cy 1, 128, .inl mlf)), ((ma 69), .inl (cy 1, 13440, .inl ccf)), ((ma 67), .inl (cy 1, 78, .inl prf))] H := hP
  have hD : va_D A [(hm, .inr (12, [.int cd, .ref (ma 1), (fv 2), (fv 3), .ref (ma 4), (fv 5), (fv 6), (fv 7), (fv 8), (fv 9), (fv 10), (fv 11), (fv 12), (fv 13), (fv 14), .int 1, (fv 16), .ref (ma 17), .ref (ma 18), .ref (ma 19), .ref (ma 20), .ref (ma 21), .ref (ma 22), .ref (ma 23), .ref (ma 24), .ref (ma 25), .ref (ma 26), .ref (ma 27), .ref (ma 28), .ref (ma 29), .ref (ma 30), .ref (ma 31), .ref (ma 32), .ref (ma 33), .ref (ma 34), .ref (ma 35), .ref (ma 36), .ref (ma 37), .ref (ma 38), .ref (ma 39), .ref (ma 40), .ref (ma 41), .ref (ma 42), .ref (ma 43), .ref (ma 44), .ref (ma 45), .ref (ma 46), .ref (ma 47), .ref (ma 48), (fv 49), (fv 50), (fv 51), (fv 52), (fv 53), (fv 54), (fv 55), (fv 56), (fv 57), (fv 58), .ref (ma 59), .ref (ma 60), (fv 61), (fv 62), .int (nI 1), .int (nI 0), .int 0, .int rv, .ref (ma 67), .ref (ma 68), .ref (ma 69), .int 0, (fv 71), .int (nI 0), .ref (ma 73)])), ((ma 39), .inl (cy 1, 3400, .inl kf)), ((ma 40), .inl (cy 1, 3400, .inl af)), ((ma 46), .inl (cy 2, 3400, .inr (.inl nf))), ((ma 23), .inl (cy 1, 16, .inl tm)), ((ma 24), .inl (cy 1, 128, .inl mkf)), ((ma 25), .inl (cy 2, 128, .inr (.inl mnf))), ((ma 29), .inl (cy 1, 128, .inl mbf)), ((ma 68), .inl (cy 1, 210, .inl ttf)), ((ma 17), .inl (cy 1, 2, .inl ym)), ((ma 30), .inl (cy 1, 128, .inl mpf)), ((ma 59), .inl (cy 1, 16, .inl f5)), ((ma 22), .inl (cy 1, 16, .inl tuf)), ((ma 37), .inl (cy 1, 128, .inl mtf)), ((ma 33), .inl (cy 1, 128, .inl mlf)), ((ma 69), .inl (cy 1, 13440, .inl ccf)), ((ma 67), .inl (cy 1, 78, .inl prf))] := hD
  have hP9 := hP.sub (ws' := [(hm, .inr (12, [.int cd, .ref (ma 1), (fv 2), (fv 3), .ref (ma 4), (fv 5), (fv 6), (fv 7), (fv 8), (fv 9), (fv 10), (fv 11), (fv 12), (fv 13), (fv 14), .int 1, (fv 16), .ref (ma 17), .ref (ma 18), .ref (ma 19), .ref (ma 20), .ref (ma 21), .ref (ma 22), .ref (ma 23), .ref (ma 24), .ref (ma 25), .ref (ma 26), .ref (ma 27), .ref (ma 28), .ref (ma 29), .ref (ma 30), .ref (ma 31), .ref (ma 32), .ref (ma 33), .ref (ma 34), .ref (ma 35), .ref (ma 36), .ref (ma 37), .ref (ma 38), .ref (ma 39), .ref (ma 40), .ref (ma 41), .ref (ma 42), .ref (ma 43), .ref (ma 44), .ref (ma 45), .ref (ma 46), .ref (ma 47), .ref (ma 48), (fv 49), (fv 50), (fv 51), (fv 52), (fv 53), (fv 54), (fv 55), (fv 56), (fv 57), (fv 58), .ref (ma 59), .ref (ma 60), (fv 61), (fv 62), .int (nI 1), .int (nI 0), .int 0, .int rv, .ref (ma 67), .ref (ma 68), .ref (ma 69), .int 0, (fv 71), .int (nI 0), .ref (ma 73)])), ((ma 39), .inl (cy 1, 3400, .inl kf)), ((ma 40), .inl (cy 1, 3400, .inl af)), ((ma 46), .inl (cy 2, 3400, .inr (.inl nf))), ((ma 23), .inl (cy 1, 16, .inl tm)), ((ma 24), .inl (cy 1, 128, .inl mkf)), ((ma 25), .inl (cy 2, 128, .inr (.inl mnf))), ((ma 29), .inl (cy 1, 128, .inl mbf)), ((ma 68), .inl (cy 1, 210, .inl ttf)), ((ma 17), .inl (cy 1, 2, .inl ym)), ((ma 30), .inl (cy 1, 128, .inl mpf)), ((ma 59), .inl (cy 1, 16, .inl f5)), ((ma 22), .inl (cy 1, 16, .inl tuf)), ((ma 37), .inl (cy 1, 128, .inl mtf)), ((ma 33), .inl (cy 1, 128, .inl mlf)), ((ma 69), .inl (cy 1, 13440, .inl ccf)), ((ma 67), .inl (cy 1, 78, .inl prf))]) [0, 1, 2, 3, 4, 5, 6, 7, 8, 9, 10, 11, 12, 13, 14, 15, 16] rfl
  have hD9 := hD.sub (ws' := [(hm, .inr (12, [.int cd, .ref (ma 1), (fv 2), (fv 3), .ref (ma 4), (fv 5), (fv 6), (fv 7), (fv 8), (fv 9), (fv 10), (fv 11), (fv 12), (fv 13), (fv 14), .int 1, (fv 16), .ref (ma 17), .ref (ma 18), .ref (ma 19), .ref (ma 20), .ref (ma 21), .ref (ma 22), .ref (ma 23), .ref (ma 24), .ref (ma 25), .ref (ma 26), .ref (ma 27), .ref (ma 28), .ref (ma 29), .ref (ma 30), .ref (ma 31), .ref (ma 32), .ref (ma 33), .ref (ma 34), .ref (ma 35), .ref (ma 36), .ref (ma 37), .ref (ma 38), .ref (ma 39), .ref (ma 40), .ref (ma 41), .ref (ma 42), .ref (ma 43), .ref (ma 44), .ref (ma 45), .ref (ma 46), .ref (ma 47), .ref (ma 48), (fv 49), (fv 50), (fv 51), (fv 52), (fv 53), (fv 54), (fv 55), (fv 56), (fv 57), (fv 58), .ref (ma 59), .ref (ma 60), (fv 61), (fv 62), .int (nI 1), .int (nI 0), .int 0, .int rv, .ref (ma 67), .ref (ma 68), .ref (ma 69), .int 0, (fv 71), .int (nI 0), .ref (ma 73)])), ((ma 39), .inl (cy 1, 3400, .inl kf)), ((ma 40), .inl (cy 1, 3400, .inl af)), ((ma 46), .inl (cy 2, 3400, .inr (.inl nf))), ((ma 23), .inl (cy 1, 16, .inl tm)), ((ma 24), .inl (cy 1, 128, .inl mkf)), ((ma 25), .inl (cy 2, 128, .inr (.inl mnf))), ((ma 29), .inl (cy 1, 128, .inl mbf)), ((ma 68), .inl (cy 1, 210, .inl ttf)), ((ma 17), .inl (cy 1, 2, .inl ym)), ((ma 30), .inl (cy 1, 128, .inl mpf)), ((ma 59), .inl (cy 1, 16, .inl f5)), ((ma 22), .inl (cy 1, 16, .inl tuf)), ((ma 37), .inl (cy 1, 128, .inl mtf)), ((ma 33), .inl (cy 1, 128, .inl mlf)), ((ma 69), .inl (cy 1, 13440, .inl ccf)), ((ma 67), .inl (cy 1, 78, .inl prf))]) [0, 1, 2, 3, 4, 5, 6, 7, 8, 9, 10, 11, 12, 13, 14, 15, 16] (by decide) rfl
  refine W.widen (k := 0) (n := 0) (Nat.le_of_ble_eq_true rfl) (Nat.le_of_ble_eq_true rfl) ?_
  exact W.vret hx hb hr (fun t ht hW => ⟨⟨f5, rfl, trivial, by rw [ht]; exact hP9, hD9⟩, hS.F ht⟩) hS.2.2 dX12_begin_240

set_option maxHeartbeats 4000000 in
set_option maxRecDepth 100000 in
theorem d_fill0 (l : Launch) (D : va_G) (cy : Nat → ClassId) (sz : Nat) (hm : Nat) (ma : Nat → Nat) (fv : Nat → Value) (kf : Nat → Int32) (af : Nat → Int32) (nf : Nat → Int64) (tm : Nat → Int32) (mkf : Nat → Int32) (mnf : Nat → Int64) (mbf : Nat → Int32) (ttf : Nat → Int32) (kn : Nat → Nat) (nn : Nat) (se : Nat) (tt : Nat) (bb : Nat) (ss : Nat) (nm : Int64) (st : Nat) (dp : Nat) (rv : Int32) (cd : Int32) (md : Int32) (hf : Int32) (mb : Nat) (ms : Nat) (mx : Nat) (ym : Nat → Int32) (mpf : Nat → Int32) (tsf : Nat → Int32) (tuf : Nat → Int32) (mtf : Nat → Int32) (mlf : Nat → Int32) (ccf : Nat → Int32) (prf : Nat → Int32) (fr : Int32) (hk : Mk kf af nf tm mkf mbf ym mpf tuf mtf mlf nm mb ms mx) : Met l yX12_fill (.code yX12_fill cX12_fill 4 none :: TB) ({ frames := 0, cells := 0, slots := 0, locals := 0 }) (va_Pc [.ref hm, .int 64, .int fr] (fun U => U.heap.size = sz ∧ va_P D vwCl [(hm, .inr (12, [.int cd, .ref (ma 1), (fv 2), (fv 3), .ref (ma 4), (fv 5), (fv 6), (fv 7), (fv 8), (fv 9), (fv 10), (fv 11), (fv 12), (fv 13), (fv 14), .int hf, (fv 16), .ref (ma 17), .ref (ma 18), .ref (ma 19), .ref (ma 20), .ref (ma 21), .ref (ma 22), .ref (ma 23), .ref (ma 24), .ref (ma 25), .ref (ma 26), .ref (ma 27), .ref (ma 28), .ref (ma 29), .ref (ma 30), .ref (ma 31), .ref (ma 32), .ref (ma 33), .ref (ma 34), .ref (ma 35), .ref (ma 36), .ref (ma 37), .ref (ma 38), .ref (ma 39), .ref (ma 40), .ref (ma 41), .ref (ma 42), .ref (ma 43), .ref (ma 44), .ref (ma 45), .ref (ma 46), .ref (ma 47), .ref (ma 48), (fv 49), (fv 50), (fv 51), (fv 52), (fv 53), (fv 54), (fv 55), (fv 56), (fv 57), (fv 58), .ref (ma 59), .ref (ma 60), (fv 61), (fv 62), .int (nI st), .int (nI dp), .int 0, .int rv, .ref (ma 67), .ref (ma 68), .ref (ma 69), .int md, (fv 71), .int (nI se), .ref (ma 73)])), ((ma 39), .inl (cy 1, 3400, .inl kf)), ((ma 40), .inl (cy 1, 3400, .inl af)), ((ma 46), .inl (cy 2, 3400, .inr (.inl nf))), ((ma 23), .inl (cy 1, 16, .inl tm)), ((ma 24), .inl (cy 1, 128, .inl mkf)), ((ma 25), .inl (cy 2, 128, .inr (.inl mnf))), ((ma 29), .inl (cy 1, 128, .inl mbf)), ((ma 68), .inl (cy 1, 210, .inl ttf)), ((ma 17), .inl (cy 1, 2, .inl ym)), ((ma 30), .inl (cy 1, 128, .inl mpf)), ((ma 59), .inl (cy 1, 16, .inl tsf)), ((ma 22), .inl (cy 1, 16, .inl tuf)), ((ma 37), .inl (cy 1, 128, .inl mtf)), ((ma 33), .inl (cy 1, 128, .inl mlf)), ((ma 69), .inl (cy 1, 13440, .inl ccf)), ((ma 67), .inl (cy 1, 78, .inl prf))] U.heap ∧ va_K D vwCl (TY cy) U ∧ va_D (fun _ => True) [(hm, .inr (12, [.int cd, .ref (ma 1), (fv 2), (fv 3), .ref (ma 4), (fv 5), (fv 6), (fv 7), (fv 8), (fv 9), (fv 10), (fv 11), (fv 12), (fv 13), (fv 14), .int hf, (fv 16), .ref (ma 17), .ref (ma 18), .ref (ma 19), .ref (ma 20), .ref (ma 21), .ref (ma 22), .ref (ma 23), .ref (ma 24), .ref (ma 25), .ref (ma 26), .ref (ma 27), .ref (ma 28), .ref (ma 29), .ref (ma 30), .ref (ma 31), .ref (ma 32), .ref (ma 33), .ref (ma 34), .ref (ma 35), .ref (ma 36), .ref (ma 37), .ref (ma 38), .ref (ma 39), .ref (ma 40), .ref (ma 41), .ref (ma 42), .ref (ma 43), .ref (ma 44), .ref (ma 45), .ref (ma 46), .ref (ma 47), .ref (ma 48), (fv 49), (fv 50), (fv 51), (fv 52), (fv 53), (fv 54), (fv 55), (fv 56), (fv 57), (fv 58), .ref (ma 59), .ref (ma 60), (fv 61), (fv 62), .int (nI st), .int (nI dp), .int 0, .int rv, .ref (ma 67), .ref (ma 68), .ref (ma 69), .int md, (fv 71), .int (nI se), .ref (ma 73)])), ((ma 39), .inl (cy 1, 3400, .inl kf)), ((ma 40), .inl (cy 1, 3400, .inl af)), ((ma 46), .inl (cy 2, 3400, .inr (.inl nf))), ((ma 23), .inl (cy 1, 16, .inl tm)), ((ma 24), .inl (cy 1, 128, .inl mkf)), ((ma 25), .inl (cy 2, 128, .inr (.inl mnf))), ((ma 29), .inl (cy 1, 128, .inl mbf)), ((ma 68), .inl (cy 1, 210, .inl ttf)), ((ma 17), .inl (cy 1, 2, .inl ym)), ((ma 30), .inl (cy 1, 128, .inl mpf)), ((ma 59), .inl (cy 1, 16, .inl tsf)), ((ma 22), .inl (cy 1, 16, .inl tuf)), ((ma 37), .inl (cy 1, 128, .inl mtf)), ((ma 33), .inl (cy 1, 128, .inl mlf)), ((ma 69), .inl (cy 1, 13440, .inl ccf)), ((ma 67), .inl (cy 1, 78, .inl prf))])) (va_Qv (fun (u : Unit) => True) (fun (u : Unit) t => va_P D vwCl [(hm, .inr (12, [.int cd, .ref (ma 1), (fv 2), (fv 3), .ref (ma 4), (fv 5), (fv 6), (fv 7), (fv 8), (fv 9), (fv 10), (fv 11), (fv 12), (fv 13), (fv 14), .int hf, (fv 16), .ref (ma 17), .ref (ma 18), .ref (ma 19), .ref (ma 20), .ref (ma 21), .ref (ma 22), .ref (ma 23), .ref (ma 24), .ref (ma 25), .ref (ma 26), .ref (ma 27), .ref (ma 28), .ref (ma 29), .ref (ma 30), .ref (ma 31), .ref (ma 32), .ref (ma 33), .ref (ma 34), .ref (ma 35), .ref (ma 36), .ref (ma 37), .ref (ma 38), .ref (ma 39), .ref (ma 40), .ref (ma 41), .ref (ma 42), .ref (ma 43), .ref (ma 44), .ref (ma 45), .ref (ma 46), .ref (ma 47), .ref (ma 48), (fv 49), (fv 50), (fv 51), (fv 52), (fv 53), (fv 54), (fv 55), (fv 56), (fv 57), (fv 58), .ref (ma 59), .ref (ma 60), (fv 61), (fv 62), .int (nI st), .int (nI dp), .int 0, .int rv, .ref (ma 67), .ref (ma 68), .ref (ma 69), .int md, (fv 71), .int (nI se), .ref (ma 73)])), ((ma 39), .inl (cy 1, 3400, .inl kf)), ((ma 40), .inl (cy 1, 3400, .inl af)), ((ma 46), .inl (cy 2, 3400, .inr (.inl nf))), ((ma 23), .inl (cy 1, 16, .inl tm)), ((ma 24), .inl (cy 1, 128, .inl mkf)), ((ma 25), .inl (cy 2, 128, .inr (.inl mnf))), ((ma 29), .inl (cy 1, 128, .inl mbf)), ((ma 68), .inl (cy 1, 210, .inl ttf)), ((ma 17), .inl (cy 1, 2, .inl ym)), ((ma 30), .inl (cy 1, 128, .inl mpf)), ((ma 59), .inl (cy 1, 16, .inl tsf)), ((ma 22), .inl (cy 1, 16, .inl tuf)), ((ma 37), .inl (cy 1, 128, .inl mtf)), ((ma 33), .inl (cy 1, 128, .inl mlf)), ((ma 69), .inl (cy 1, 13440, .inl ccf)), ((ma 67), .inl (cy 1, 78, .inl prf))] t.heap ∧ va_D (va_A [(hm, .inr (12, [.int cd, .ref (ma 1), (fv 2), (fv 3), .ref (ma 4), (fv 5), (fv 6), (fv 7), (fv 8), (fv 9), (fv 10), (fv 11), (fv 12), (fv 13), (fv 14), .int hf, (fv 16), .ref (ma 17), .ref (ma 18), .ref (ma 19), .ref (ma 20), .ref (ma 21), .ref (ma 22), .ref (ma 23), .ref (ma 24), .ref (ma 25), .ref (ma 26), .ref (ma 27), .ref (ma 28), .ref (ma 29), .ref (ma 30), .ref (ma 31), .ref (ma 32), .ref (ma 33), .ref (ma 34), .ref (ma 35), .ref (ma 36), .ref (ma 37), .ref (ma 38), .ref (ma 39), .ref (ma 40), .ref (ma 41), .ref (ma 42), .ref (ma 43), .ref (ma 44), .ref (ma 45), .ref (ma 46), .ref (ma 47), .ref (ma 48), (fv 49), (fv 50), (fv 51), (fv 52), (fv 53), (fv 54), (fv 55), (fv 56), (fv 57), (fv 58), .ref (ma 59), .ref (ma 60), (fv 61), (fv 62), .int (nI st), .int (nI dp), .int 0, .int rv, .ref (ma 67), .ref (ma 68), .ref (ma 69), .int md, (fv 71), .int (nI se), .ref (ma 73)])), ((ma 39), .inl (cy 1, 3400, .inl kf)), ((ma 40), .inl (cy 1, 3400, .inl af)), ((ma 46), .inl (cy 2, 3400, .inr (.inl nf))), ((ma 23), .inl (cy 1, 16, .inl tm)), ((ma 24), .inl (cy 1, 128, .inl mkf)), ((ma 25), .inl (cy 2, 128, .inr (.inl mnf))), ((ma 29), .inl (cy 1, 128, .inl mbf)), ((ma 68), .inl (cy 1, 210, .inl ttf)), ((ma 17), .inl (cy 1, 2, .inl ym)), ((ma 30), .inl (cy 1, 128, .inl mpf)), ((ma 59), .inl (cy 1, 16, .inl tsf)), ((ma 22), .inl (cy 1, 16, .inl tuf)), ((ma 37), .inl (cy 1, 128, .inl mtf)), ((ma 33), .inl (cy 1, 128, .inl mlf)), ((ma 69), .inl (cy 1, 13440, .inl ccf)), ((ma 67), .inl (cy 1, 78, .inl prf))] sz) [(hm, .inr (12, [.int cd, .ref (ma 1), (fv 2), (fv 3), .ref (ma 4), (fv 5), (fv 6), (fv 7), (fv 8), (fv 9), (fv 10), (fv 11), (fv 12), (fv 13), (fv 14), .int hf, (fv 16), .ref (ma 17), .ref (ma 18), .ref (ma 19), .ref (ma 20), .ref (ma 21), .ref (ma 22), .ref (ma 23), .ref (ma 24), .ref (ma 25), .ref (ma 26), .ref (ma 27), .ref (ma 28), .ref (ma 29), .ref (ma 30), .ref (ma 31), .ref (ma 32), .ref (ma 33), .ref (ma 34), .ref (ma 35), .ref (ma 36), .ref (ma 37), .ref (ma 38), .ref (ma 39), .ref (ma 40), .ref (ma 41), .ref (ma 42), .ref (ma 43), .ref (ma 44), .ref (ma 45), .ref (ma 46), .ref (ma 47), .ref (ma 48), (fv 49), (fv 50), (fv 51), (fv 52), (fv 53), (fv 54), (fv 55), (fv 56), (fv 57), (fv 58), .ref (ma 59), .ref (ma 60), (fv 61), (fv 62), .int (nI st), .int (nI dp), .int 0, .int rv, .ref (ma 67), .ref (ma 68), .ref (ma 69), .int md, (fv 71), .int (nI se), .ref (ma 73)])), ((ma 39), .inl (cy 1, 3400, .inl kf)), ((ma 40), .inl (cy 1, 3400, .inl af)), ((ma 46), .inl (cy 2, 3400, .inr (.inl nf))), ((ma 23), .inl (cy 1, 16, .inl tm)), ((ma 24), .inl (cy 1, 128, .inl mkf)), ((ma 25), .inl (cy 2, 128, .inr (.inl mnf))), ((ma 29), .inl (cy 1, 128, .inl mbf)), ((ma 68), .inl (cy 1, 210, .inl ttf)), ((ma 17), .inl (cy 1, 2, .inl ym)), ((ma 30), .inl (cy 1, 128, .inl mpf)), ((ma 59), .inl (cy 1, 16, .inl tsf)), ((ma 22), .inl (cy 1, 16, .inl tuf)), ((ma 37), .inl (cy 1, 128, .inl mtf)), ((ma 33), .inl (cy 1, 128, .inl mlf)), ((ma 69), .inl (cy 1, 13440, .inl ccf)), ((ma 67), .inl (cy 1, 78, .inl prf))]) (va_A [(hm, .inr (12, [.int cd, .ref (ma 1), (fv 2), (fv 3), .ref (ma 4), (fv 5), (fv 6), (fv 7), (fv 8), (fv 9), (fv 10), (fv 11), (fv 12), (fv 13), (fv 14), .int hf, (fv 16), .ref (ma 17), .ref (ma 18), .ref (ma 19), .ref (ma 20), .ref (ma 21), .ref (ma 22), .ref (ma 23), .ref (ma 24), .ref (ma 25), .ref (ma 26), .ref (ma 27), .ref (ma 28), .ref (ma 29), .ref (ma 30), .ref (ma 31), .ref (ma 32), .ref (ma 33), .ref (ma 34), .ref (ma 35), .ref (ma 36), .ref (ma 37), .ref (ma 38), .ref (ma 39), .ref (ma 40), .ref (ma 41), .ref (ma 42), .ref (ma 43), .ref (ma 44), .ref (ma 45), .ref (ma 46), .ref (ma 47), .ref (ma 48), (fv 49), (fv 50), (fv 51), (fv 52), (fv 53), (fv 54), (fv 55), (fv 56), (fv 57), (fv 58), .ref (ma 59), .ref (ma 60), (fv 61), (fv 62), .int (nI st), .int (nI dp), .int 0, .int rv, .ref (ma 67), .ref (ma 68), .ref (ma 69), .int md, (fv 71), .int (nI se), .ref (ma 73)])), ((ma 39), .inl (cy 1, 3400, .inl kf)), ((ma 40), .inl (cy 1, 3400, .inl af)), ((ma 46), .inl (cy 2, 3400, .inr (.inl nf))), ((ma 23), .inl (cy 1, 16, .inl tm)), ((ma 24), .inl (cy 1, 128, .inl mkf)), ((ma 25), .inl (cy 2, 128, .inr (.inl mnf))), ((ma 29), .inl (cy 1, 128, .inl mbf)), ((ma 68), .inl (cy 1, 210, .inl ttf)), ((ma 17), .inl (cy 1, 2, .inl ym)), ((ma 30), .inl (cy 1, 128, .inl mpf)), ((ma 59), .inl (cy 1, 16, .inl tsf)), ((ma 22), .inl (cy 1, 16, .inl tuf)), ((ma 37), .inl (cy 1, 128, .inl mtf)), ((ma 33), .inl (cy 1, 128, .inl mlf)), ((ma 69), .inl (cy 1, 13440, .inl ccf)), ((ma 67), .inl (cy 1, 78, .inl prf))] sz)) 0 0 (va_A [(hm, .inr (12, [.int cd, .ref (ma 1), (fv 2), (fv 3), .ref (ma 4), (fv 5), (fv 6), (fv 7), (fv 8), (fv 9), (fv 10), (fv 11), (fv 12), (fv 13), (fv 14), .int hf, (fv 16), .ref (ma 17), .ref (ma 18), .ref (ma 19), .ref (ma 20), .ref (ma 21), .ref (ma 22), .ref (ma 23), .ref (ma 24), .ref (ma 25), .ref (ma 26), .ref (ma 27), .ref (ma 28), .ref (ma 29), .ref (ma 30), .ref (ma 31), .ref (ma 32), .ref (ma 33), .ref (ma 34), .ref (ma 35), .ref (ma 36), .ref (ma 37), .ref (ma 38), .ref (ma 39), .ref (ma 40), .ref (ma 41), .ref (ma 42), .ref (ma 43), .ref (ma 44), .ref (ma 45), .ref (ma 46), .ref (ma 47), .ref (ma 48), (fv 49), (fv 50), (fv 51), (fv 52), (fv 53), (fv 54), (fv 55), (fv 56), (fv 57), (fv 58), .ref (ma 59), .ref (ma 60), (fv 61), (fv 62), .int (nI st), .int (nI dp), .int 0, .int rv, .ref (ma 67), .ref (ma 68), .ref (ma 69), .int md, (fv 71), .int (nI se), .ref (ma 73)])), ((ma 39), .inl (cy 1, 3400, .inl kf)), ((ma 40), .inl (cy 1, 3400, .inl af)), ((ma 46), .inl (cy 2, 3400, .inr (.inl nf))), ((ma 23), .inl (cy 1, 16, .inl tm)), ((ma 24), .inl (cy 1, 128, .inl mkf)), ((ma 25), .inl (cy 2, 128, .inr (.inl mnf))), ((ma 29), .inl (cy 1, 128, .inl mbf)), ((ma 68), .inl (cy 1, 210, .inl ttf)), ((ma 17), .inl (cy 1, 2, .inl ym)), ((ma 30), .inl (cy 1, 128, .inl mpf)), ((ma 59), .inl (cy 1, 16, .inl tsf)), ((ma 22), .inl (cy 1, 16, .inl tuf)), ((ma 37), .inl (cy 1, 128, .inl mtf)), ((ma 33), .inl (cy 1, 128, .inl mlf)), ((ma 69), .inl (cy 1, 13440, .inl ccf)), ((ma 67), .inl (cy 1, 78, .inl prf))] sz) := by
  refine Met.ofW (cc := cX12_fill) (maxL := 4) (ret := none) (by decide) rfl ?_
  intro p e s m args below meth c s₁ B hml hv
  obtain ⟨rfl, hsz, hP, hK, hD0⟩ := hv
  have hx := B.exec
  have hb := B.bytes
  have hr := B.returns
  have hts := atoms_spec (ws := .code yX12_fill cX12_fill 4 none :: TB) B.pre
  have hT : ∀ w ∈ TB, w.before _ s = true := fun w h => hts w (List.mem_cons_of_mem _ h)
  have hown : s.vm.findClass "MakerStartsModel" = some m.cls := findClass_of_methodNamed B.named
  have hlocks := B.notSynchronized
  subst hsz
  have hD := hD0.self (sz := s.heap.size)
  generalize hAe : va_A [(hm, .inr (12, [.int cd, .ref (ma 1), (fv 2), (fv 3), .ref (ma 4), (fv 5), (fv 6), (fv 7), (fv 8), (fv 9), (fv 10), (fv 11), (fv 12), (fv 13), (fv 14), .int hf, (fv 16), .ref (ma 17), .ref (ma 18), .ref (ma 19), .ref (ma 20), .ref (ma 21), .ref (ma 22), .ref (ma 23), .ref (ma 24), .ref (ma 25), .ref (ma 26), .ref (ma 27), .ref (ma 28), .ref (ma 29), .ref (ma 30), .ref (ma 31), .ref (ma 32), .ref (ma 33), .ref (ma 34), .ref (ma 35), .ref (ma 36), .ref (ma 37), .ref (ma 38), .ref (ma 39), .ref (ma 40), .ref (ma 41), .ref (ma 42), .ref (ma 43), .ref (ma 44), .ref (ma 45), .ref (ma 46), .ref (ma 47), .ref (ma 48), (fv 49), (fv 50), (fv 51), (fv 52), (fv 53), (fv 54), (fv 55), (fv 56), (fv 57), (fv 58), .ref (ma 59), .ref (ma 60), (fv 61), (fv 62), .int (nI st), .int (nI dp), .int 0, .int rv, .ref (ma 67), .ref (ma 68), .ref (ma 69), .int md, (fv 71), .int (nI se), .ref (ma 73)])), ((ma 39), .inl (cy 1, 3400, .inl kf)), ((ma 40), .inl (cy 1, 3400, .inl af)), ((ma 46), .inl (cy 2, 3400, .inr (.inl nf))), ((ma 23), .inl (cy 1, 16, .inl tm)), ((ma 24), .inl (cy 1, 128, .inl mkf)), ((ma 25), .inl (cy 2, 128, .inr (.inl mnf))), ((ma 29), .inl (cy 1, 128, .inl mbf)), ((ma 68), .inl (cy 1, 210, .inl ttf)), ((ma 17), .inl (cy 1, 2, .inl ym)), ((ma 30), .inl (cy 1, 128, .inl mpf)), ((ma 59), .inl (cy 1, 16, .inl tsf)), ((ma 22), .inl (cy 1, 16, .inl tuf)), ((ma 37), .inl (cy 1, 128, .inl mtf)), ((ma 33), .inl (cy 1, 128, .inl mlf)), ((ma 69), .inl (cy 1, 13440, .inl ccf)), ((ma 67), .inl (cy 1, 78, .inl prf))] s.heap.size = A at hD  ⊢
  have hA : ∀ q : Nat, s.heap.size ≤ q → A q := fun q h => by rw [← hAe]; exact Or.inr h
  have hS : va_S A s.heap s.heap [] := va_S.rf
  have hP : va_P D vwCl [(hm, .inr (12, [.int cd, .ref (ma 1), (fv 2), (fv 3), .ref (ma 4), (fv 5), (fv 6), (fv 7), (fv 8), (fv 9), (fv 10), (fv 11), (fv 12), (fv 13), (fv 14), .int hf, (fv 16), .ref (ma 17), .ref (ma 18), .ref (ma 19), .ref (ma 20), .ref (ma 21), .ref (ma 22), .ref (ma 23), .ref (ma 24), .ref (ma 25), .ref (ma 26), .ref (ma 27), .ref (ma 28), .ref (ma 29), .ref (ma 30), .ref (ma 31), .ref (ma 32), .ref (ma 33), .ref (ma 34), .ref (ma 35), .ref (ma 36), .ref (ma 37), .ref (ma 38), .ref (ma 39), .ref (ma 40), .ref (ma 41), .ref (ma 42), .ref (ma 43), .ref (ma 44), .ref (ma 45), .ref (ma 46), .ref (ma 47), .ref (ma 48), (fv 49), (fv 50), (fv 51), (fv 52), (fv 53), (fv 54), (fv 55), (fv 56), (fv 57), (fv 58), .ref (ma 59), .ref (ma 60), (fv 61), (fv 62), .int (nI st), .int (nI dp), .int 0, .int rv, .ref (ma 67), .ref (ma 68), .ref (ma 69), .int md, (fv 71), .int (nI se), .ref (ma 73)])), ((ma 39), .inl (cy 1, 3400, .inl kf)), ((ma 40), .inl (cy 1, 3400, .inl af)), ((ma 46), .inl (cy 2, 3400, .inr (.inl nf))), ((ma 23), .inl (cy 1, 16, .inl tm)), ((ma 24), .inl (cy 1, 128, .inl mkf)), ((ma 25), .inl (cy 2, 128, .inr (.inl mnf))), ((ma 29), .inl (cy 1, 128, .inl mbf)), ((ma 68), .inl (cy 1, 210, .inl ttf)), ((ma 17), .inl (cy 1, 2, .inl ym)), ((ma 30), .inl (cy 1, 128, .inl mpf)), ((ma 59), .inl (cy 1, 16, .inl tsf)), ((ma 22), .inl (cy 1, 16, .inl tuf)), ((ma 37), .inl (cy 1, 128, .inl mtf)), ((ma 33), .inl (cy 1, 128, .inl mlf)), ((ma 69), .inl (cy 1, 13440, .inl ccf)), ((ma 67), .inl (cy 1, 78, .inl prf))] s.heap := hP
  have hl := lv_entry ([.ref hm, .int 64, .int fr]) (n := 4) (Nat.le_of_ble_eq_true rfl)
  rw [lg_entry_eq]
  generalize (lg_sl ([.ref hm, .int 64, .int fr]) ++ List.replicate (4 - (lg_sl ([.ref hm, .int 64, .int fr])).length) Slot.unset).toArray = ls at hl ⊢
  have hl : lv_has ls 4 [(0, .ref hm), (1, .int 64), (2, .int fr)] := hl
  obtain ⟨kym, ktm, kk0, kk1, kmp, ktu, kmt, kml, kmb, kbb, kab, kss0, kss, kks, kas, kxx, kkx, knx⟩ := hk
  refine lv_aload_n hx hb dX12_fill_0 rfl (lv_at hl 0 rfl) ?_
  refine va_get (D := D) (ci := 12) (v := .ref (ma 24)) (C := RX12) (T := TX12) (N := 74) hx hb hT i_TX12 hown hK hP 0 rfl rfl 24 (by decide) (hT _ t_1739) (fun _ h9 => h9) rfl dX12_fill_1 ?_
  refine lv_iload_n hx hb dX12_fill_4 rfl (lv_at hl 1 rfl) ?_
  refine va_iald hx hb hK hP 5 1 rfl rfl (vp_in_iff.mpr (by decide)) dX12_fill_5 ?_
  refine lv_topi (fun z1 e2 => ?_)
  obtain rfl : z1 = 6 := e2.trans kk0
  refine lv_iconst (v := 1) hx hb dX12_fill_6 (by decide) ?_
  refine lv_icmp_ne (tgt := 59) hx hb dX12_fill_7 (by decide) (fun _ => ?_) (fun c9 => absurd c9 (by decide))
  refine lv_aload_n hx hb dX12_fill_59 rfl (lv_at hl 0 rfl) ?_
  refine va_get (D := D) (ci := 12) (v := .ref (ma 24)) (C := RX12) (T := TX12) (N := 74) hx hb hT i_TX12 hown hK hP 0 rfl rfl 24 (by decide) (hT _ t_1739) (fun _ h9 => h9) rfl dX12_fill_60 ?_
  refine lv_iload_n hx hb dX12_fill_63 rfl (lv_at hl 1 rfl) ?_
  refine va_iald hx hb hK hP 5 1 rfl rfl (vp_in_iff.mpr (by decide)) dX12_fill_64 ?_
  refine lv_topi (fun z3 e4 => ?_)
  obtain rfl : z3 = 6 := e4.trans kk0
  refine lv_iconst (v := 3) hx hb dX12_fill_65 (by decide) ?_
  refine lv_icmp_ne (tgt := 81) hx hb dX12_fill_66 (by decide) (fun _ => ?_) (fun c9 => absurd c9 (by decide))
  have hP9 := hP.sub (ws' := [(hm, .inr (12, [.int cd, .ref (ma 1), (fv 2), (fv 3), .ref (ma 4), (fv 5), (fv 6), (fv 7), (fv 8), (fv 9), (fv 10), (fv 11), (fv 12), (fv 13), (fv 14), .int hf, (fv 16), .ref (ma 17), .ref (ma 18), .ref (ma 19), .ref (ma 20), .ref (ma 21), .ref (ma 22), .ref (ma 23), .ref (ma 24), .ref (ma 25), .ref (ma 26), .ref (ma 27), .ref (ma 28), .ref (ma 29), .ref (ma 30), .ref (ma 31), .ref (ma 32), .ref (ma 33), .ref (ma 34), .ref (ma 35), .ref (ma 36), .ref (ma 37), .ref (ma 38), .ref (ma 39), .ref (ma 40), .ref (ma 41), .ref (ma 42), .ref (ma 43), .ref (ma 44), .ref (ma 45), .ref (ma 46), .ref (ma 47), .ref (ma 48), (fv 49), (fv 50), (fv 51), (fv 52), (fv 53), (fv 54), (fv 55), (fv 56), (fv 57), (fv 58), .ref (ma 59), .ref (ma 60), (fv 61), (fv 62), .int (nI st), .int (nI dp), .int 0, .int rv, .ref (ma 67), .ref (ma 68), .ref (ma 69), .int md, (fv 71), .int (nI se), .ref (ma 73)])), ((ma 39), .inl (cy 1, 3400, .inl kf)), ((ma 40), .inl (cy 1, 3400, .inl af)), ((ma 46), .inl (cy 2, 3400, .inr (.inl nf))), ((ma 23), .inl (cy 1, 16, .inl tm)), ((ma 24), .inl (cy 1, 128, .inl mkf)), ((ma 25), .inl (cy 2, 128, .inr (.inl mnf))), ((ma 29), .inl (cy 1, 128, .inl mbf)), ((ma 68), .inl (cy 1, 210, .inl ttf)), ((ma 17), .inl (cy 1, 2, .inl ym)), ((ma 30), .inl (cy 1, 128, .inl mpf)), ((ma 59), .inl (cy 1, 16, .inl tsf)), ((ma 22), .inl (cy 1, 16, .inl tuf)), ((ma 37), .inl (cy 1, 128, .inl mtf)), ((ma 33), .inl (cy 1, 128, .inl mlf)), ((ma 69), .inl (cy 1, 13440, .inl ccf)), ((ma 67), .inl (cy 1, 78, .inl prf))]) [0, 1, 2, 3, 4, 5, 6, 7, 8, 9, 10, 11, 12, 13, 14, 15, 16] rfl
  have hD9 := hD.sub (ws' := [(hm, .inr (12, [.int cd, .ref (ma 1), (fv 2), (fv 3), .ref (ma 4), (fv 5), (fv 6), (fv 7), (fv 8), (fv 9), (fv 10), (fv 11), (fv 12), (fv 13), (fv 14), .int hf, (fv 16), .ref (ma 17), .ref (ma 18), .ref (ma 19), .ref (ma 20), .ref (ma 21), .ref (ma 22), .ref (ma 23), .ref (ma 24), .ref (ma 25), .ref (ma 26), .ref (ma 27), .ref (ma 28), .ref (ma 29), .ref (ma 30), .ref (ma 31), .ref (ma 32), .ref (ma 33), .ref (ma 34), .ref (ma 35), .ref (ma 36), .ref (ma 37), .ref (ma 38), .ref (ma 39), .ref (ma 40), .ref (ma 41), .ref (ma 42), .ref (ma 43), .ref (ma 44), .ref (ma 45), .ref (ma 46), .ref (ma 47), .ref (ma 48), (fv 49), (fv 50), (fv 51), (fv 52), (fv 53), (fv 54), (fv 55), (fv 56), (fv 57), (fv 58), .ref (ma 59), .ref (ma 60), (fv 61), (fv 62), .int (nI st), .int (nI dp), .int 0, .int rv, .ref (ma 67), .ref (ma 68), .ref (ma 69), .int md, (fv 71), .int (nI se), .ref (ma 73)])), ((ma 39), .inl (cy 1, 3400, .inl kf)), ((ma 40), .inl (cy 1, 3400, .inl af)), ((ma 46), .inl (cy 2, 3400, .inr (.inl nf))), ((ma 23), .inl (cy 1, 16, .inl tm)), ((ma 24), .inl (cy 1, 128, .inl mkf)), ((ma 25), .inl (cy 2, 128, .inr (.inl mnf))), ((ma 29), .inl (cy 1, 128, .inl mbf)), ((ma 68), .inl (cy 1, 210, .inl ttf)), ((ma 17), .inl (cy 1, 2, .inl ym)), ((ma 30), .inl (cy 1, 128, .inl mpf)), ((ma 59), .inl (cy 1, 16, .inl tsf)), ((ma 22), .inl (cy 1, 16, .inl tuf)), ((ma 37), .inl (cy 1, 128, .inl mtf)), ((ma 33), .inl (cy 1, 128, .inl mlf)), ((ma 69), .inl (cy 1, 13440, .inl ccf)), ((ma 67), .inl (cy 1, 78, .inl prf))]) [0, 1, 2, 3, 4, 5, 6, 7, 8, 9, 10, 11, 12, 13, 14, 15, 16] (by decide) rfl
  refine W.widen (k := 0) (n := 0) (Nat.le_of_ble_eq_true rfl) (Nat.le_of_ble_eq_true rfl) ?_
  exact W.vret hx hb hr (fun t ht hW => ⟨⟨(), rfl, trivial, by rw [ht]; exact hP9, hD9⟩, hS.F ht⟩) hS.2.2 dX12_fill_81

set_option maxHeartbeats 4000000 in
set_option maxRecDepth 100000 in
theorem d_fill1 (l : Launch) (D : va_G) (cy : Nat → ClassId) (sz : Nat) (hm : Nat) (ma : Nat → Nat) (fv : Nat → Value) (kf : Nat → Int32) (af : Nat → Int32) (nf : Nat → Int64) (tm : Nat → Int32) (mkf : Nat → Int32) (mnf : Nat → Int64) (mbf : Nat → Int32) (ttf : Nat → Int32) (kn : Nat → Nat) (nn : Nat) (se : Nat) (tt : Nat) (bb : Nat) (ss : Nat) (nm : Int64) (st : Nat) (dp : Nat) (rv : Int32) (cd : Int32) (md : Int32) (hf : Int32) (mb : Nat) (ms : Nat) (mx : Nat) (ym : Nat → Int32) (mpf : Nat → Int32) (tsf : Nat → Int32) (tuf : Nat → Int32) (mtf : Nat → Int32) (mlf : Nat → Int32) (ccf : Nat → Int32) (prf : Nat → Int32) (fr : Int32) (hk : Mk kf af nf tm mkf mbf ym mpf tuf mtf mlf nm mb ms mx) : Met l yX12_fill (.code yX12_fill cX12_fill 4 none :: TB) ({ frames := 0, cells := 0, slots := 0, locals := 0 }) (va_Pc [.ref hm, .int 65, .int fr] (fun U => U.heap.size = sz ∧ va_P D vwCl [(hm, .inr (12, [.int cd, .ref (ma 1), (fv 2), (fv 3), .ref (ma 4), (fv 5), (fv 6), (fv 7), (fv 8), (fv 9), (fv 10), (fv 11), (fv 12), (fv 13), (fv 14), .int hf, (fv 16), .ref (ma 17), .ref (ma 18), .ref (ma 19), .ref (ma 20), .ref (ma 21), .ref (ma 22), .ref (ma 23), .ref (ma 24), .ref (ma 25), .ref (ma 26), .ref (ma 27), .ref (ma 28), .ref (ma 29), .ref (ma 30), .ref (ma 31), .ref (ma 32), .ref (ma 33), .ref (ma 34), .ref (ma 35), .ref (ma 36), .ref (ma 37), .ref (ma 38), .ref (ma 39), .ref (ma 40), .ref (ma 41), .ref (ma 42), .ref (ma 43), .ref (ma 44), .ref (ma 45), .ref (ma 46), .ref (ma 47), .ref (ma 48), (fv 49), (fv 50), (fv 51), (fv 52), (fv 53), (fv 54), (fv 55), (fv 56), (fv 57), (fv 58), .ref (ma 59), .ref (ma 60), (fv 61), (fv 62), .int (nI st), .int (nI dp), .int 0, .int rv, .ref (ma 67), .ref (ma 68), .ref (ma 69), .int md, (fv 71), .int (nI se), .ref (ma 73)])), ((ma 39), .inl (cy 1, 3400, .inl kf)), ((ma 40), .inl (cy 1, 3400, .inl af)), ((ma 46), .inl (cy 2, 3400, .inr (.inl nf))), ((ma 23), .inl (cy 1, 16, .inl tm)), ((ma 24), .inl (cy 1, 128, .inl mkf)), ((ma 25), .inl (cy 2, 128, .inr (.inl mnf))), ((ma 29), .inl (cy 1, 128, .inl mbf)), ((ma 68), .inl (cy 1, 210, .inl ttf)), ((ma 17), .inl (cy 1, 2, .inl ym)), ((ma 30), .inl (cy 1, 128, .inl mpf)), ((ma 59), .inl (cy 1, 16, .inl tsf)), ((ma 22), .inl (cy 1, 16, .inl tuf)), ((ma 37), .inl (cy 1, 128, .inl mtf)), ((ma 33), .inl (cy 1, 128, .inl mlf)), ((ma 69), .inl (cy 1, 13440, .inl ccf)), ((ma 67), .inl (cy 1, 78, .inl prf))] U.heap ∧ va_K D vwCl (TY cy) U ∧ va_D (fun _ => True) [(hm, .inr (12, [.int cd, .ref (ma 1), (fv 2), (fv 3), .ref (ma 4), (fv 5), (fv 6), (fv 7), (fv 8), (fv 9), (fv 10), (fv 11), (fv 12), (fv 13), (fv 14), .int hf, (fv 16), .ref (ma 17), .ref (ma 18), .ref (ma 19), .ref (ma 20), .ref (ma 21), .ref (ma 22), .ref (ma 23), .ref (ma 24), .ref (ma 25), .ref (ma 26), .ref (ma 27), .ref (ma 28), .ref (ma 29), .ref (ma 30), .ref (ma 31), .ref (ma 32), .ref (ma 33), .ref (ma 34), .ref (ma 35), .ref (ma 36), .ref (ma 37), .ref (ma 38), .ref (ma 39), .ref (ma 40), .ref (ma 41), .ref (ma 42), .ref (ma 43), .ref (ma 44), .ref (ma 45), .ref (ma 46), .ref (ma 47), .ref (ma 48), (fv 49), (fv 50), (fv 51), (fv 52), (fv 53), (fv 54), (fv 55), (fv 56), (fv 57), (fv 58), .ref (ma 59), .ref (ma 60), (fv 61), (fv 62), .int (nI st), .int (nI dp), .int 0, .int rv, .ref (ma 67), .ref (ma 68), .ref (ma 69), .int md, (fv 71), .int (nI se), .ref (ma 73)])), ((ma 39), .inl (cy 1, 3400, .inl kf)), ((ma 40), .inl (cy 1, 3400, .inl af)), ((ma 46), .inl (cy 2, 3400, .inr (.inl nf))), ((ma 23), .inl (cy 1, 16, .inl tm)), ((ma 24), .inl (cy 1, 128, .inl mkf)), ((ma 25), .inl (cy 2, 128, .inr (.inl mnf))), ((ma 29), .inl (cy 1, 128, .inl mbf)), ((ma 68), .inl (cy 1, 210, .inl ttf)), ((ma 17), .inl (cy 1, 2, .inl ym)), ((ma 30), .inl (cy 1, 128, .inl mpf)), ((ma 59), .inl (cy 1, 16, .inl tsf)), ((ma 22), .inl (cy 1, 16, .inl tuf)), ((ma 37), .inl (cy 1, 128, .inl mtf)), ((ma 33), .inl (cy 1, 128, .inl mlf)), ((ma 69), .inl (cy 1, 13440, .inl ccf)), ((ma 67), .inl (cy 1, 78, .inl prf))])) (va_Qv (fun (u : Unit) => True) (fun (u : Unit) t => va_P D vwCl [(hm, .inr (12, [.int cd, .ref (ma 1), (fv 2), (fv 3), .ref (ma 4), (fv 5), (fv 6), (fv 7), (fv 8), (fv 9), (fv 10), (fv 11), (fv 12), (fv 13), (fv 14), .int hf, (fv 16), .ref (ma 17), .ref (ma 18), .ref (ma 19), .ref (ma 20), .ref (ma 21), .ref (ma 22), .ref (ma 23), .ref (ma 24), .ref (ma 25), .ref (ma 26), .ref (ma 27), .ref (ma 28), .ref (ma 29), .ref (ma 30), .ref (ma 31), .ref (ma 32), .ref (ma 33), .ref (ma 34), .ref (ma 35), .ref (ma 36), .ref (ma 37), .ref (ma 38), .ref (ma 39), .ref (ma 40), .ref (ma 41), .ref (ma 42), .ref (ma 43), .ref (ma 44), .ref (ma 45), .ref (ma 46), .ref (ma 47), .ref (ma 48), (fv 49), (fv 50), (fv 51), (fv 52), (fv 53), (fv 54), (fv 55), (fv 56), (fv 57), (fv 58), .ref (ma 59), .ref (ma 60), (fv 61), (fv 62), .int (nI st), .int (nI dp), .int 0, .int rv, .ref (ma 67), .ref (ma 68), .ref (ma 69), .int md, (fv 71), .int (nI se), .ref (ma 73)])), ((ma 39), .inl (cy 1, 3400, .inl kf)), ((ma 40), .inl (cy 1, 3400, .inl af)), ((ma 46), .inl (cy 2, 3400, .inr (.inl nf))), ((ma 23), .inl (cy 1, 16, .inl tm)), ((ma 24), .inl (cy 1, 128, .inl mkf)), ((ma 25), .inl (cy 2, 128, .inr (.inl mnf))), ((ma 29), .inl (cy 1, 128, .inl mbf)), ((ma 68), .inl (cy 1, 210, .inl ttf)), ((ma 17), .inl (cy 1, 2, .inl ym)), ((ma 30), .inl (cy 1, 128, .inl mpf)), ((ma 59), .inl (cy 1, 16, .inl tsf)), ((ma 22), .inl (cy 1, 16, .inl tuf)), ((ma 37), .inl (cy 1, 128, .inl mtf)), ((ma 33), .inl (cy 1, 128, .inl mlf)), ((ma 69), .inl (cy 1, 13440, .inl ccf)), ((ma 67), .inl (cy 1, 78, .inl prf))] t.heap ∧ va_D (va_A [(hm, .inr (12, [.int cd, .ref (ma 1), (fv 2), (fv 3), .ref (ma 4), (fv 5), (fv 6), (fv 7), (fv 8), (fv 9), (fv 10), (fv 11), (fv 12), (fv 13), (fv 14), .int hf, (fv 16), .ref (ma 17), .ref (ma 18), .ref (ma 19), .ref (ma 20), .ref (ma 21), .ref (ma 22), .ref (ma 23), .ref (ma 24), .ref (ma 25), .ref (ma 26), .ref (ma 27), .ref (ma 28), .ref (ma 29), .ref (ma 30), .ref (ma 31), .ref (ma 32), .ref (ma 33), .ref (ma 34), .ref (ma 35), .ref (ma 36), .ref (ma 37), .ref (ma 38), .ref (ma 39), .ref (ma 40), .ref (ma 41), .ref (ma 42), .ref (ma 43), .ref (ma 44), .ref (ma 45), .ref (ma 46), .ref (ma 47), .ref (ma 48), (fv 49), (fv 50), (fv 51), (fv 52), (fv 53), (fv 54), (fv 55), (fv 56), (fv 57), (fv 58), .ref (ma 59), .ref (ma 60), (fv 61), (fv 62), .int (nI st), .int (nI dp), .int 0, .int rv, .ref (ma 67), .ref (ma 68), .ref (ma 69), .int md, (fv 71), .int (nI se), .ref (ma 73)])), ((ma 39), .inl (cy 1, 3400, .inl kf)), ((ma 40), .inl (cy 1, 3400, .inl af)), ((ma 46), .inl (cy 2, 3400, .inr (.inl nf))), ((ma 23), .inl (cy 1, 16, .inl tm)), ((ma 24), .inl (cy 1, 128, .inl mkf)), ((ma 25), .inl (cy 2, 128, .inr (.inl mnf))), ((ma 29), .inl (cy 1, 128, .inl mbf)), ((ma 68), .inl (cy 1, 210, .inl ttf)), ((ma 17), .inl (cy 1, 2, .inl ym)), ((ma 30), .inl (cy 1, 128, .inl mpf)), ((ma 59), .inl (cy 1, 16, .inl tsf)), ((ma 22), .inl (cy 1, 16, .inl tuf)), ((ma 37), .inl (cy 1, 128, .inl mtf)), ((ma 33), .inl (cy 1, 128, .inl mlf)), ((ma 69), .inl (cy 1, 13440, .inl ccf)), ((ma 67), .inl (cy 1, 78, .inl prf))] sz) [(hm, .inr (12, [.int cd, .ref (ma 1), (fv 2), (fv 3), .ref (ma 4), (fv 5), (fv 6), (fv 7), (fv 8), (fv 9), (fv 10), (fv 11), (fv 12), (fv 13), (fv 14), .int hf, (fv 16), .ref (ma 17), .ref (ma 18), .ref (ma 19), .ref (ma 20), .ref (ma 21), .ref (ma 22), .ref (ma 23), .ref (ma 24), .ref (ma 25), .ref (ma 26), .ref (ma 27), .ref (ma 28), .ref (ma 29), .ref (ma 30), .ref (ma 31), .ref (ma 32), .ref (ma 33), .ref (ma 34), .ref (ma 35), .ref (ma 36), .ref (ma 37), .ref (ma 38), .ref (ma 39), .ref (ma 40), .ref (ma 41), .ref (ma 42), .ref (ma 43), .ref (ma 44), .ref (ma 45), .ref (ma 46), .ref (ma 47), .ref (ma 48), (fv 49), (fv 50), (fv 51), (fv 52), (fv 53), (fv 54), (fv 55), (fv 56), (fv 57), (fv 58), .ref (ma 59), .ref (ma 60), (fv 61), (fv 62), .int (nI st), .int (nI dp), .int 0, .int rv, .ref (ma 67), .ref (ma 68), .ref (ma 69), .int md, (fv 71), .int (nI se), .ref (ma 73)])), ((ma 39), .inl (cy 1, 3400, .inl kf)), ((ma 40), .inl (cy 1, 3400, .inl af)), ((ma 46), .inl (cy 2, 3400, .inr (.inl nf))), ((ma 23), .inl (cy 1, 16, .inl tm)), ((ma 24), .inl (cy 1, 128, .inl mkf)), ((ma 25), .inl (cy 2, 128, .inr (.inl mnf))), ((ma 29), .inl (cy 1, 128, .inl mbf)), ((ma 68), .inl (cy 1, 210, .inl ttf)), ((ma 17), .inl (cy 1, 2, .inl ym)), ((ma 30), .inl (cy 1, 128, .inl mpf)), ((ma 59), .inl (cy 1, 16, .inl tsf)), ((ma 22), .inl (cy 1, 16, .inl tuf)), ((ma 37), .inl (cy 1, 128, .inl mtf)), ((ma 33), .inl (cy 1, 128, .inl mlf)), ((ma 69), .inl (cy 1, 13440, .inl ccf)), ((ma 67), .inl (cy 1, 78, .inl prf))]) (va_A [(hm, .inr (12, [.int cd, .ref (ma 1), (fv 2), (fv 3), .ref (ma 4), (fv 5), (fv 6), (fv 7), (fv 8), (fv 9), (fv 10), (fv 11), (fv 12), (fv 13), (fv 14), .int hf, (fv 16), .ref (ma 17), .ref (ma 18), .ref (ma 19), .ref (ma 20), .ref (ma 21), .ref (ma 22), .ref (ma 23), .ref (ma 24), .ref (ma 25), .ref (ma 26), .ref (ma 27), .ref (ma 28), .ref (ma 29), .ref (ma 30), .ref (ma 31), .ref (ma 32), .ref (ma 33), .ref (ma 34), .ref (ma 35), .ref (ma 36), .ref (ma 37), .ref (ma 38), .ref (ma 39), .ref (ma 40), .ref (ma 41), .ref (ma 42), .ref (ma 43), .ref (ma 44), .ref (ma 45), .ref (ma 46), .ref (ma 47), .ref (ma 48), (fv 49), (fv 50), (fv 51), (fv 52), (fv 53), (fv 54), (fv 55), (fv 56), (fv 57), (fv 58), .ref (ma 59), .ref (ma 60), (fv 61), (fv 62), .int (nI st), .int (nI dp), .int 0, .int rv, .ref (ma 67), .ref (ma 68), .ref (ma 69), .int md, (fv 71), .int (nI se), .ref (ma 73)])), ((ma 39), .inl (cy 1, 3400, .inl kf)), ((ma 40), .inl (cy 1, 3400, .inl af)), ((ma 46), .inl (cy 2, 3400, .inr (.inl nf))), ((ma 23), .inl (cy 1, 16, .inl tm)), ((ma 24), .inl (cy 1, 128, .inl mkf)), ((ma 25), .inl (cy 2, 128, .inr (.inl mnf))), ((ma 29), .inl (cy 1, 128, .inl mbf)), ((ma 68), .inl (cy 1, 210, .inl ttf)), ((ma 17), .inl (cy 1, 2, .inl ym)), ((ma 30), .inl (cy 1, 128, .inl mpf)), ((ma 59), .inl (cy 1, 16, .inl tsf)), ((ma 22), .inl (cy 1, 16, .inl tuf)), ((ma 37), .inl (cy 1, 128, .inl mtf)), ((ma 33), .inl (cy 1, 128, .inl mlf)), ((ma 69), .inl (cy 1, 13440, .inl ccf)), ((ma 67), .inl (cy 1, 78, .inl prf))] sz)) 0 0 (va_A [(hm, .inr (12, [.int cd, .ref (ma 1), (fv 2), (fv 3), .ref (ma 4), (fv 5), (fv 6), (fv 7), (fv 8), (fv 9), (fv 10), (fv 11), (fv 12), (fv 13), (fv 14), .int hf, (fv 16), .ref (ma 17), .ref (ma 18), .ref (ma 19), .ref (ma 20), .ref (ma 21), .ref (ma 22), .ref (ma 23), .ref (ma 24), .ref (ma 25), .ref (ma 26), .ref (ma 27), .ref (ma 28), .ref (ma 29), .ref (ma 30), .ref (ma 31), .ref (ma 32), .ref (ma 33), .ref (ma 34), .ref (ma 35), .ref (ma 36), .ref (ma 37), .ref (ma 38), .ref (ma 39), .ref (ma 40), .ref (ma 41), .ref (ma 42), .ref (ma 43), .ref (ma 44), .ref (ma 45), .ref (ma 46), .ref (ma 47), .ref (ma 48), (fv 49), (fv 50), (fv 51), (fv 52), (fv 53), (fv 54), (fv 55), (fv 56), (fv 57), (fv 58), .ref (ma 59), .ref (ma 60), (fv 61), (fv 62), .int (nI st), .int (nI dp), .int 0, .int rv, .ref (ma 67), .ref (ma 68), .ref (ma 69), .int md, (fv 71), .int (nI se), .ref (ma 73)])), ((ma 39), .inl (cy 1, 3400, .inl kf)), ((ma 40), .inl (cy 1, 3400, .inl af)), ((ma 46), .inl (cy 2, 3400, .inr (.inl nf))), ((ma 23), .inl (cy 1, 16, .inl tm)), ((ma 24), .inl (cy 1, 128, .inl mkf)), ((ma 25), .inl (cy 2, 128, .inr (.inl mnf))), ((ma 29), .inl (cy 1, 128, .inl mbf)), ((ma 68), .inl (cy 1, 210, .inl ttf)), ((ma 17), .inl (cy 1, 2, .inl ym)), ((ma 30), .inl (cy 1, 128, .inl mpf)), ((ma 59), .inl (cy 1, 16, .inl tsf)), ((ma 22), .inl (cy 1, 16, .inl tuf)), ((ma 37), .inl (cy 1, 128, .inl mtf)), ((ma 33), .inl (cy 1, 128, .inl mlf)), ((ma 69), .inl (cy 1, 13440, .inl ccf)), ((ma 67), .inl (cy 1, 78, .inl prf))] sz) := by
  refine Met.ofW (cc := cX12_fill) (maxL := 4) (ret := none) (by decide) rfl ?_
  intro p e s m args below meth c s₁ B hml hv
  obtain ⟨rfl, hsz, hP, hK, hD0⟩ := hv
  have hx := B.exec
  have hb := B.bytes
  have hr := B.returns
  have hts := atoms_spec (ws := .code yX12_fill cX12_fill 4 none :: TB) B.pre
  have hT : ∀ w ∈ TB, w.before _ s = true := fun w h => hts w (List.mem_cons_of_mem _ h)
  have hown : s.vm.findClass "MakerStartsModel" = some m.cls := findClass_of_methodNamed B.named
  have hlocks := B.notSynchronized
  subst hsz
  have hD := hD0.self (sz := s.heap.size)
  generalize hAe : va_A [(hm, .inr (12, [.int cd, .ref (ma 1), (fv 2), (fv 3), .ref (ma 4), (fv 5), (fv 6), (fv 7), (fv 8), (fv 9), (fv 10), (fv 11), (fv 12), (fv 13), (fv 14), .int hf, (fv 16), .ref (ma 17), .ref (ma 18), .ref (ma 19), .ref (ma 20), .ref (ma 21), .ref (ma 22), .ref (ma 23), .ref (ma 24), .ref (ma 25), .ref (ma 26), .ref (ma 27), .ref (ma 28), .ref (ma 29), .ref (ma 30), .ref (ma 31), .ref (ma 32), .ref (ma 33), .ref (ma 34), .ref (ma 35), .ref (ma 36), .ref (ma 37), .ref (ma 38), .ref (ma 39), .ref (ma 40), .ref (ma 41), .ref (ma 42), .ref (ma 43), .ref (ma 44), .ref (ma 45), .ref (ma 46), .ref (ma 47), .ref (ma 48), (fv 49), (fv 50), (fv 51), (fv 52), (fv 53), (fv 54), (fv 55), (fv 56), (fv 57), (fv 58), .ref (ma 59), .ref (ma 60), (fv 61), (fv 62), .int (nI st), .int (nI dp), .int 0, .int rv, .ref (ma 67), .ref (ma 68), .ref (ma 69), .int md, (fv 71), .int (nI se), .ref (ma 73)])), ((ma 39), .inl (cy 1, 3400, .inl kf)), ((ma 40), .inl (cy 1, 3400, .inl af)), ((ma 46), .inl (cy 2, 3400, .inr (.inl nf))), ((ma 23), .inl (cy 1, 16, .inl tm)), ((ma 24), .inl (cy 1, 128, .inl mkf)), ((ma 25), .inl (cy 2, 128, .inr (.inl mnf))), ((ma 29), .inl (cy 1, 128, .inl mbf)), ((ma 68), .inl (cy 1, 210, .inl ttf)), ((ma 17), .inl (cy 1, 2, .inl ym)), ((ma 30), .inl (cy 1, 128, .inl mpf)), ((ma 59), .inl (cy 1, 16, .inl tsf)), ((ma 22), .inl (cy 1, 16, .inl tuf)), ((ma 37), .inl (cy 1, 128, .inl mtf)), ((ma 33), .inl (cy 1, 128, .inl mlf)), ((ma 69), .inl (cy 1, 13440, .inl ccf)), ((ma 67), .inl (cy 1, 78, .inl prf))] s.heap.size = A at hD  ⊢
  have hA : ∀ q : Nat, s.heap.size ≤ q → A q := fun q h => by rw [← hAe]; exact Or.inr h
  have hS : va_S A s.heap s.heap [] := va_S.rf
  have hP : va_P D vwCl [(hm, .inr (12, [.int cd, .ref (ma 1), (fv 2), (fv 3), .ref (ma 4), (fv 5), (fv 6), (fv 7), (fv 8), (fv 9), (fv 10), (fv 11), (fv 12), (fv 13), (fv 14), .int hf, (fv 16), .ref (ma 17), .ref (ma 18), .ref (ma 19), .ref (ma 20), .ref (ma 21), .ref (ma 22), .ref (ma 23), .ref (ma 24), .ref (ma 25), .ref (ma 26), .ref (ma 27), .ref (ma 28), .ref (ma 29), .ref (ma 30), .ref (ma 31), .ref (ma 32), .ref (ma 33), .ref (ma 34), .ref (ma 35), .ref (ma 36), .ref (ma 37), .ref (ma 38), .ref (ma 39), .ref (ma 40), .ref (ma 41), .ref (ma 42), .ref (ma 43), .ref (ma 44), .ref (ma 45), .ref (ma 46), .ref (ma 47), .ref (ma 48), (fv 49), (fv 50), (fv 51), (fv 52), (fv 53), (fv 54), (fv 55), (fv 56), (fv 57), (fv 58), .ref (ma 59), .ref (ma 60), (fv 61), (fv 62), .int (nI st), .int (nI dp), .int 0, .int rv, .ref (ma 67), .ref (ma 68), .ref (ma 69), .int md, (fv 71), .int (nI se), .ref (ma 73)])), ((ma 39), .inl (cy 1, 3400, .inl kf)), ((ma 40), .inl (cy 1, 3400, .inl af)), ((ma 46), .inl (cy 2, 3400, .inr (.inl nf))), ((ma 23), .inl (cy 1, 16, .inl tm)), ((ma 24), .inl (cy 1, 128, .inl mkf)), ((ma 25), .inl (cy 2, 128, .inr (.inl mnf))), ((ma 29), .inl (cy 1, 128, .inl mbf)), ((ma 68), .inl (cy 1, 210, .inl ttf)), ((ma 17), .inl (cy 1, 2, .inl ym)), ((ma 30), .inl (cy 1, 128, .inl mpf)), ((ma 59), .inl (cy 1, 16, .inl tsf)), ((ma 22), .inl (cy 1, 16, .inl tuf)), ((ma 37), .inl (cy 1, 128, .inl mtf)), ((ma 33), .inl (cy 1, 128, .inl mlf)), ((ma 69), .inl (cy 1, 13440, .inl ccf)), ((ma 67), .inl (cy 1, 78, .inl prf))] s.heap := hP
  have hl := lv_entry ([.ref hm, .int 65, .int fr]) (n := 4) (Nat.le_of_ble_eq_true rfl)
  rw [lg_entry_eq]
  generalize (lg_sl ([.ref hm, .int 65, .int fr]) ++ List.replicate (4 - (lg_sl ([.ref hm, .int 65, .int fr])).length) Slot.unset).toArray = ls at hl ⊢
  have hl : lv_has ls 4 [(0, .ref hm), (1, .int 65), (2, .int fr)] := hl
  obtain ⟨kym, ktm, kk0, kk1, kmp, ktu, kmt, kml, kmb, kbb, kab, kss0, kss, kks, kas, kxx, kkx, knx⟩ := hk
  refine lv_aload_n hx hb dX12_fill_0 rfl (lv_at hl 0 rfl) ?_
  refine va_get (D := D) (ci := 12) (v := .ref (ma 24)) (C := RX12) (T := TX12) (N := 74) hx hb hT i_TX12 hown hK hP 0 rfl rfl 24 (by decide) (hT _ t_1739) (fun _ h9 => h9) rfl dX12_fill_1 ?_
  refine lv_iload_n hx hb dX12_fill_4 rfl (lv_at hl 1 rfl) ?_
  refine va_iald hx hb hK hP 5 1 rfl rfl (vp_in_iff.mpr (by decide)) dX12_fill_5 ?_
  refine lv_topi (fun z1 e2 => ?_)
  obtain rfl : z1 = 5 := e2.trans kk1
  refine lv_iconst (v := 1) hx hb dX12_fill_6 (by decide) ?_
  refine lv_icmp_ne (tgt := 59) hx hb dX12_fill_7 (by decide) (fun _ => ?_) (fun c9 => absurd c9 (by decide))
  refine lv_aload_n hx hb dX12_fill_59 rfl (lv_at hl 0 rfl) ?_
  refine va_get (D := D) (ci := 12) (v := .ref (ma 24)) (C := RX12) (T := TX12) (N := 74) hx hb hT i_TX12 hown hK hP 0 rfl rfl 24 (by decide) (hT _ t_1739) (fun _ h9 => h9) rfl dX12_fill_60 ?_
  refine lv_iload_n hx hb dX12_fill_63 rfl (lv_at hl 1 rfl) ?_
  refine va_iald hx hb hK hP 5 1 rfl rfl (vp_in_iff.mpr (by decide)) dX12_fill_64 ?_
  refine lv_topi (fun z3 e4 => ?_)
  obtain rfl : z3 = 5 := e4.trans kk1
  refine lv_iconst (v := 3) hx hb dX12_fill_65 (by decide) ?_
  refine lv_icmp_ne (tgt := 81) hx hb dX12_fill_66 (by decide) (fun _ => ?_) (fun c9 => absurd c9 (by decide))
  have hP9 := hP.sub (ws' := [(hm, .inr (12, [.int cd, .ref (ma 1), (fv 2), (fv 3), .ref (ma 4), (fv 5), (fv 6), (fv 7), (fv 8), (fv 9), (fv 10), (fv 11), (fv 12), (fv 13), (fv 14), .int hf, (fv 16), .ref (ma 17), .ref (ma 18), .ref (ma 19), .ref (ma 20), .ref (ma 21), .ref (ma 22), .ref (ma 23), .ref (ma 24), .ref (ma 25), .ref (ma 26), .ref (ma 27), .ref (ma 28), .ref (ma 29), .ref (ma 30), .ref (ma 31), .ref (ma 32), .ref (ma 33), .ref (ma 34), .ref (ma 35), .ref (ma 36), .ref (ma 37), .ref (ma 38), .ref (ma 39), .ref (ma 40), .ref (ma 41), .ref (ma 42), .ref (ma 43), .ref (ma 44), .ref (ma 45), .ref (ma 46), .ref (ma 47), .ref (ma 48), (fv 49), (fv 50), (fv 51), (fv 52), (fv 53), (fv 54), (fv 55), (fv 56), (fv 57), (fv 58), .ref (ma 59), .ref (ma 60), (fv 61), (fv 62), .int (nI st), .int (nI dp), .int 0, .int rv, .ref (ma 67), .ref (ma 68), .ref (ma 69), .int md, (fv 71), .int (nI se), .ref (ma 73)])), ((ma 39), .inl (cy 1, 3400, .inl kf)), ((ma 40), .inl (cy 1, 3400, .inl af)), ((ma 46), .inl (cy 2, 3400, .inr (.inl nf))), ((ma 23), .inl (cy 1, 16, .inl tm)), ((ma 24), .inl (cy 1, 128, .inl mkf)), ((ma 25), .inl (cy 2, 128, .inr (.inl mnf))), ((ma 29), .inl (cy 1, 128, .inl mbf)), ((ma 68), .inl (cy 1, 210, .inl ttf)), ((ma 17), .inl (cy 1, 2, .inl ym)), ((ma 30), .inl (cy 1, 128, .inl mpf)), ((ma 59), .inl (cy 1, 16, .inl tsf)), ((ma 22), .inl (cy 1, 16, .inl tuf)), ((ma 37), .inl (cy 1, 128, .inl mtf)), ((ma 33), .inl (cy 1, 128, .inl mlf)), ((ma 69), .inl (cy 1, 13440, .inl ccf)), ((ma 67), .inl (cy 1, 78, .inl prf))]) [0, 1, 2, 3, 4, 5, 6, 7, 8, 9, 10, 11, 12, 13, 14, 15, 16] rfl
  have hD9 := hD.sub (ws' := [(hm, .inr (12, [.int cd, .ref (ma 1), (fv 2), (fv 3), .ref (ma 4), (fv 5), (fv 6), (fv 7), (fv 8), (fv 9), (fv 10), (fv 11), (fv 12), (fv 13), (fv 14), .int hf, (fv 16), .ref (ma 17), .ref (ma 18), .ref (ma 19), .ref (ma 20), .ref (ma 21), .ref (ma 22), .ref (ma 23), .ref (ma 24), .ref (ma 25), .ref (ma 26), .ref (ma 27), .ref (ma 28), .ref (ma 29), .ref (ma 30), .ref (ma 31), .ref (ma 32), .ref (ma 33), .ref (ma 34), .ref (ma 35), .ref (ma 36), .ref (ma 37), .ref (ma 38), .ref (ma 39), .ref (ma 40), .ref (ma 41), .ref (ma 42), .ref (ma 43), .ref (ma 44), .ref (ma 45), .ref (ma 46), .ref (ma 47), .ref (ma 48), (fv 49), (fv 50), (fv 51), (fv 52), (fv 53), (fv 54), (fv 55), (fv 56), (fv 57), (fv 58), .ref (ma 59), .ref (ma 60), (fv 61), (fv 62), .int (nI st), .int (nI dp), .int 0, .int rv, .ref (ma 67), .ref (ma 68), .ref (ma 69), .int md, (fv 71), .int (nI se), .ref (ma 73)])), ((ma 39), .inl (cy 1, 3400, .inl kf)), ((ma 40), .inl (cy 1, 3400, .inl af)), ((ma 46), .inl (cy 2, 3400, .inr (.inl nf))), ((ma 23), .inl (cy 1, 16, .inl tm)), ((ma 24), .inl (cy 1, 128, .inl mkf)), ((ma 25), .inl (cy 2, 128, .inr (.inl mnf))), ((ma 29), .inl (cy 1, 128, .inl mbf)), ((ma 68), .inl (cy 1, 210, .inl ttf)), ((ma 17), .inl (cy 1, 2, .inl ym)), ((ma 30), .inl (cy 1, 128, .inl mpf)), ((ma 59), .inl (cy 1, 16, .inl tsf)), ((ma 22), .inl (cy 1, 16, .inl tuf)), ((ma 37), .inl (cy 1, 128, .inl mtf)), ((ma 33), .inl (cy 1, 128, .inl mlf)), ((ma 69), .inl (cy 1, 13440, .inl ccf)), ((ma 67), .inl (cy 1, 78, .inl prf))]) [0, 1, 2, 3, 4, 5, 6, 7, 8, 9, 10, 11, 12, 13, 14, 15, 16] (by decide) rfl
  refine W.widen (k := 0) (n := 0) (Nat.le_of_ble_eq_true rfl) (Nat.le_of_ble_eq_true rfl) ?_
  exact W.vret hx hb hr (fun t ht hW => ⟨⟨(), rfl, trivial, by rw [ht]; exact hP9, hD9⟩, hS.F ht⟩) hS.2.2 dX12_fill_81

set_option maxHeartbeats 4000000 in
set_option maxRecDepth 100000 in
theorem e_work2 (l : Launch) (D : va_G) (cy : Nat → ClassId) (sz : Nat) (hm : Nat) (ma : Nat → Nat) (fv : Nat → Value) (kf : Nat → Int32) (af : Nat → Int32) (nf : Nat → Int64) (tm : Nat → Int32) (mkf : Nat → Int32) (mnf : Nat → Int64) (mbf : Nat → Int32) (ttf : Nat → Int32) (kn : Nat → Nat) (nn : Nat) (se : Nat) (tt : Nat) (bb : Nat) (ss : Nat) (nm : Int64) (st : Nat) (dp : Nat) (rv : Int32) (cd : Int32) (md : Int32) (hf : Int32) (mb : Nat) (ms : Nat) (mx : Nat) (fr : Int32) (d : Nat) (h1 : mx < 3400) (h2 : kf mx = 3) (h3 : nf mx = nm) (hN : ∀ k, d = k + 1 → ∀ (sz : Nat), Dies l yX12_callAct (.code yX12_callAct cX12_callAct 5 (some .int) :: TB) k (va_Pc [.ref hm, .long nm] (fun U => U.heap.size = sz ∧ va_P D vwCl [(hm, .inr (12, [.int cd, .ref (ma 1), (fv 2), (fv 3), .ref (ma 4), (fv 5), (fv 6), (fv 7), (fv 8), (fv 9), (fv 10), (fv 11), (fv 12), (fv 13), (fv 14), .int hf, (fv 16), .ref (ma 17), .ref (ma 18), .ref (ma 19), .ref (ma 20), .ref (ma 21), .ref (ma 22), .ref (ma 23), .ref (ma 24), .ref (ma 25), .ref (ma 26), .ref (ma 27), .ref (ma 28), .ref (ma 29), .ref (ma 30), .ref (ma 31), .ref (ma 32), .ref (ma 33), .ref (ma 34), .ref (ma 35), .ref (ma 36), .ref (ma 37), .ref (ma 38), .ref (ma 39), .ref (ma 40), .ref (ma 41), .ref (ma 42), .ref (ma 43), .ref (ma 44), .ref (ma 45), .ref (ma 46), .ref (ma 47), .ref (ma 48), (fv 49), (fv 50), (fv 51), (fv 52), (fv 53), (fv 54), (fv 55), (fv 56), (fv 57), (fv 58), .ref (ma 59), .ref (ma 60), (fv 61), (fv 62), .int (nI st), .int (nI dp), .int 0, .int rv, .ref (ma 67), .ref (ma 68), .ref (ma 69), .int md, (fv 71), .int (nI se), .ref (ma 73)])), ((ma 39), .inl (cy 1, 3400, .inl kf)), ((ma 40), .inl (cy 1, 3400, .inl af)), ((ma 46), .inl (cy 2, 3400, .inr (.inl nf))), ((ma 23), .inl (cy 1, 16, .inl tm)), ((ma 24), .inl (cy 1, 128, .inl mkf)), ((ma 25), .inl (cy 2, 128, .inr (.inl mnf))), ((ma 29), .inl (cy 1, 128, .inl mbf)), ((ma 68), .inl (cy 1, 210, .inl ttf))] U.heap ∧ va_K D vwCl (TY cy) U ∧ va_D (fun _ => True) [(hm, .inr (12, [.int cd, .ref (ma 1), (fv 2), (fv 3), .ref (ma 4), (fv 5), (fv 6), (fv 7), (fv 8), (fv 9), (fv 10), (fv 11), (fv 12), (fv 13), (fv 14), .int hf, (fv 16), .ref (ma 17), .ref (ma 18), .ref (ma 19), .ref (ma 20), .ref (ma 21), .ref (ma 22), .ref (ma 23), .ref (ma 24), .ref (ma 25), .ref (ma 26), .ref (ma 27), .ref (ma 28), .ref (ma 29), .ref (ma 30), .ref (ma 31), .ref (ma 32), .ref (ma 33), .ref (ma 34), .ref (ma 35), .ref (ma 36), .ref (ma 37), .ref (ma 38), .ref (ma 39), .ref (ma 40), .ref (ma 41), .ref (ma 42), .ref (ma 43), .ref (ma 44), .ref (ma 45), .ref (ma 46), .ref (ma 47), .ref (ma 48), (fv 49), (fv 50), (fv 51), (fv 52), (fv 53), (fv 54), (fv 55), (fv 56), (fv 57), (fv 58), .ref (ma 59), .ref (ma 60), (fv 61), (fv 62), .int (nI st), .int (nI dp), .int 0, .int rv, .ref (ma 67), .ref (ma 68), .ref (ma 69), .int md, (fv 71), .int (nI se), .ref (ma 73)])), ((ma 39), .inl (cy 1, 3400, .inl kf)), ((ma 40), .inl (cy 1, 3400, .inl af)), ((ma 46), .inl (cy 2, 3400, .inr (.inl nf))), ((ma 23), .inl (cy 1, 16, .inl tm)), ((ma 24), .inl (cy 1, 128, .inl mkf)), ((ma 25), .inl (cy 2, 128, .inr (.inl mnf))), ((ma 29), .inl (cy 1, 128, .inl mbf)), ((ma 68), .inl (cy 1, 210, .inl ttf))]))) : Dies l yX12_work (.code yX12_work cX12_work 5 (some .int) :: TB) d (va_Pc [.ref hm, .int (nI mx), .int fr] (fun U => U.heap.size = sz ∧ va_P D vwCl [(hm, .inr (12, [.int cd, .ref (ma 1), (fv 2), (fv 3), .ref (ma 4), (fv 5), (fv 6), (fv 7), (fv 8), (fv 9), (fv 10), (fv 11), (fv 12), (fv 13), (fv 14), .int hf, (fv 16), .ref (ma 17), .ref (ma 18), .ref (ma 19), .ref (ma 20), .ref (ma 21), .ref (ma 22), .ref (ma 23), .ref (ma 24), .ref (ma 25), .ref (ma 26), .ref (ma 27), .ref (ma 28), .ref (ma 29), .ref (ma 30), .ref (ma 31), .ref (ma 32), .ref (ma 33), .ref (ma 34), .ref (ma 35), .ref (ma 36), .ref (ma 37), .ref (ma 38), .ref (ma 39), .ref (ma 40), .ref (ma 41), .ref (ma 42), .ref (ma 43), .ref (ma 44), .ref (ma 45), .ref (ma 46), .ref (ma 47), .ref (ma 48), (fv 49), (fv 50), (fv 51), (fv 52), (fv 53), (fv 54), (fv 55), (fv 56), (fv 57), (fv 58), .ref (ma 59), .ref (ma 60), (fv 61), (fv 62), .int (nI st), .int (nI dp), .int 0, .int rv, .ref (ma 67), .ref (ma 68), .ref (ma 69), .int md, (fv 71), .int (nI se), .ref (ma 73)])), ((ma 39), .inl (cy 1, 3400, .inl kf)), ((ma 40), .inl (cy 1, 3400, .inl af)), ((ma 46), .inl (cy 2, 3400, .inr (.inl nf))), ((ma 23), .inl (cy 1, 16, .inl tm)), ((ma 24), .inl (cy 1, 128, .inl mkf)), ((ma 25), .inl (cy 2, 128, .inr (.inl mnf))), ((ma 29), .inl (cy 1, 128, .inl mbf)), ((ma 68), .inl (cy 1, 210, .inl ttf))] U.heap ∧ va_K D vwCl (TY cy) U ∧ va_D (fun _ => True) [(hm, .inr (12, [.int cd, .ref (ma 1), (fv 2), (fv 3), .ref (ma 4), (fv 5), (fv 6), (fv 7), (fv 8), (fv 9), (fv 10), (fv 11), (fv 12), (fv 13), (fv 14), .int hf, (fv 16), .ref (ma 17), .ref (ma 18), .ref (ma 19), .ref (ma 20), .ref (ma 21), .ref (ma 22), .ref (ma 23), .ref (ma 24), .ref (ma 25), .ref (ma 26), .ref (ma 27), .ref (ma 28), .ref (ma 29), .ref (ma 30), .ref (ma 31), .ref (ma 32), .ref (ma 33), .ref (ma 34), .ref (ma 35), .ref (ma 36), .ref (ma 37), .ref (ma 38), .ref (ma 39), .ref (ma 40), .ref (ma 41), .ref (ma 42), .ref (ma 43), .ref (ma 44), .ref (ma 45), .ref (ma 46), .ref (ma 47), .ref (ma 48), (fv 49), (fv 50), (fv 51), (fv 52), (fv 53), (fv 54), (fv 55), (fv 56), (fv 57), (fv 58), .ref (ma 59), .ref (ma 60), (fv 61), (fv 62), .int (nI st), .int (nI dp), .int 0, .int rv, .ref (ma 67), .ref (ma 68), .ref (ma 69), .int md, (fv 71), .int (nI se), .ref (ma 73)])), ((ma 39), .inl (cy 1, 3400, .inl kf)), ((ma 40), .inl (cy 1, 3400, .inl af)), ((ma 46), .inl (cy 2, 3400, .inr (.inl nf))), ((ma 23), .inl (cy 1, 16, .inl tm)), ((ma 24), .inl (cy 1, 128, .inl mkf)), ((ma 25), .inl (cy 2, 128, .inr (.inl mnf))), ((ma 29), .inl (cy 1, 128, .inl mbf)), ((ma 68), .inl (cy 1, 210, .inl ttf))])) := by
  refine Dies.ofW (cc := cX12_work) (maxL := 5) (ret := (some .int)) (by decide) rfl ?_
  intro p e s m args below meth c s₁ B hml hex hmc htg hv
  obtain ⟨rfl, hsz, hP, hK, hD0⟩ := hv
  have hx := B.exec
  have hb := B.bytes
  have hr := B.returns
  have hts := atoms_spec (ws := .code yX12_work cX12_work 5 (some .int) :: TB) B.pre
  have hT : ∀ w ∈ TB, w.before _ s = true := fun w h => hts w (List.mem_cons_of_mem _ h)
  have hown : s.vm.findClass "MakerStartsModel" = some m.cls := findClass_of_methodNamed B.named
  have hlocks := B.notSynchronized
  subst hsz
  have hD := hD0.self (sz := s.heap.size)
  generalize hAe : va_A [(hm, .inr (12, [.int cd, .ref (ma 1), (fv 2), (fv 3), .ref (ma 4), (fv 5), (fv 6), (fv 7), (fv 8), (fv 9), (fv 10), (fv 11), (fv 12), (fv 13), (fv 14), .int hf, (fv 16), .ref (ma 17), .ref (ma 18), .ref (ma 19), .ref (ma 20), .ref (ma 21), .ref (ma 22), .ref (ma 23), .ref (ma 24), .ref (ma 25), .ref (ma 26), .ref (ma 27), .ref (ma 28), .ref (ma 29), .ref (ma 30), .ref (ma 31), .ref (ma 32), .ref (ma 33), .ref (ma 34), .ref (ma 35), .ref (ma 36), .ref (ma 37), .ref (ma 38), .ref (ma 39), .ref (ma 40), .ref (ma 41), .ref (ma 42), .ref (ma 43), .ref (ma 44), .ref (ma 45), .ref (ma 46), .ref (ma 47), .ref (ma 48), (fv 49), (fv 50), (fv 51), (fv 52), (fv 53), (fv 54), (fv 55), (fv 56), (fv 57), (fv 58), .ref (ma 59), .ref (ma 60), (fv 61), (fv 62), .int (nI st), .int (nI dp), .int 0, .int rv, .ref (ma 67), .ref (ma 68), .ref (ma 69), .int md, (fv 71), .int (nI se), .ref (ma 73)])), ((ma 39), .inl (cy 1, 3400, .inl kf)), ((ma 40), .inl (cy 1, 3400, .inl af)), ((ma 46), .inl (cy 2, 3400, .inr (.inl nf))), ((ma 23), .inl (cy 1, 16, .inl tm)), ((ma 24), .inl (cy 1, 128, .inl mkf)), ((ma 25), .inl (cy 2, 128, .inr (.inl mnf))), ((ma 29), .inl (cy 1, 128, .inl mbf)), ((ma 68), .inl (cy 1, 210, .inl ttf))] s.heap.size = A at hD  ⊢
  have hA : ∀ q : Nat, s.heap.size ≤ q → A q := fun q h => by rw [← hAe]; exact Or.inr h
  have hS : va_S A s.heap s.heap [] := va_S.rf
  have hP : va_P D vwCl [(hm, .inr (12, [.int cd, .ref (ma 1), (fv 2), (fv 3), .ref (ma 4), (fv 5), (fv 6), (fv 7), (fv 8), (fv 9), (fv 10), (fv 11), (fv 12), (fv 13), (fv 14), .int hf, (fv 16), .ref (ma 17), .ref (ma 18), .ref (ma 19), .ref (ma 20), .ref (ma 21), .ref (ma 22), .ref (ma 23), .ref (ma 24), .ref (ma 25), .ref (ma 26), .ref (ma 27), .ref (ma 28), .ref (ma 29), .ref (ma 30), .ref (ma 31), .ref (ma 32), .ref (ma 33), .ref (ma 34), .ref (ma 35), .ref (ma 36), .ref (ma 37), .ref (ma 38), .ref (ma 39), .ref (ma 40), .ref (ma 41), .ref (ma 42), .ref (ma 43), .ref (ma 44), .ref (ma 45), .ref (ma 46), .ref (ma 47), .ref (ma 48), (fv 49), (fv 50), (fv 51), (fv 52), (fv 53), (fv 54), (fv 55), (fv 56), (fv 57), (fv 58), .ref (ma 59), .ref (ma 60), (fv 61), (fv 62), .int (nI st), .int (nI dp), .int 0, .int rv, .ref (ma 67), .ref (ma 68), .ref (ma 69), .int md, (fv 71), .int (nI se), .ref (ma 73)])), ((ma 39), .inl (cy 1, 3400, .inl kf)), ((ma 40), .inl (cy 1, 3400, .inl af)), ((ma 46), .inl (cy 2, 3400, .inr (.inl nf))), ((ma 23), .inl (cy 1, 16, .inl tm)), ((ma 24), .inl (cy 1, 128, .inl mkf)), ((ma 25), .inl (cy 2, 128, .inr (.inl mnf))), ((ma 29), .inl (cy 1, 128, .inl mbf)), ((ma 68), .inl (cy 1, 210, .inl ttf))] s.heap := hP
  have hl := lv_entry ([.ref hm, .int (nI mx), .int fr]) (n := 5) (Nat.le_of_ble_eq_true rfl)
  rw [lg_entry_eq]
  generalize (lg_sl ([.ref hm, .int (nI mx), .int fr]) ++ List.replicate (5 - (lg_sl ([.ref hm, .int (nI mx), .int fr])).length) Slot.unset).toArray = ls at hl ⊢
  have hl : lv_has ls 5 [(0, .ref hm), (1, .int (nI mx)), (2, .int fr)] := hl
  refine lv_aload_n hx hb dX12_work_0 rfl (lv_at hl 0 rfl) ?_
  refine va_get (D := D) (ci := 12) (v := .int 0) (C := RX12) (T := TX12) (N := 74) hx hb hT i_TX12 hown hK hP 0 rfl rfl 65 (by decide) (hT _ t_1780) (fun _ h9 => h9) rfl dX12_work_1 ?_
  refine lv_if_eq (tgt := 9) hx hb dX12_work_4 (by decide) (fun _ => ?_) (fun c9 => absurd (by decide) c9)
  refine lv_aload_n hx hb dX12_work_9 rfl (lv_at hl 0 rfl) ?_
  refine va_get (D := D) (ci := 12) (v := .ref (ma 39)) (C := RX12) (T := TX12) (N := 74) hx hb hT i_TX12 hown hK hP 0 rfl rfl 39 (by decide) (hT _ t_1754) (fun _ h9 => h9) rfl dX12_work_10 ?_
  refine lv_iload_n hx hb dX12_work_13 rfl (lv_at hl 1 rfl) ?_
  refine va_iald hx hb hK hP 1 1 rfl rfl (vp_in_nI h1 (by decide)) dX12_work_14 ?_
  refine lv_topi (fun z1 e2 => ?_)
  obtain rfl : z1 = 3 := e2.trans (by rw [nI_clamp (n := mx) (by omega)]; exact h2)
  refine lv_tableIn (off := 93) (tgt := 108) hx hb dX12_work_15 (by decide) (by decide) (by decide) (by decide) ?_
  refine lv_aload_n hx hb dX12_work_108 rfl (lv_at hl 0 rfl) ?_
  refine lv_aload_n hx hb dX12_work_109 rfl (lv_at hl 0 rfl) ?_
  refine va_get (D := D) (ci := 12) (v := .ref (ma 46)) (C := RX12) (T := TX12) (N := 74) hx hb hT i_TX12 hown hK hP 0 rfl rfl 46 (by decide) (hT _ t_1761) (fun _ h9 => h9) rfl dX12_work_110 ?_
  refine lv_iload_n hx hb dX12_work_113 rfl (lv_at hl 1 rfl) ?_
  refine va_lald hx hb hK hP 3 2 rfl rfl (vp_in_nI h1 (by decide)) dX12_work_114 ?_
  refine lv_topl (fun z3 e4 => ?_)
  obtain rfl : nm = z3 := (e4.trans (by rw [nI_clamp (n := mx) (by omega)]; exact h3)).symm
  have hPc := hP.sub (ws' := [(hm, .inr (12, [.int cd, .ref (ma 1), (fv 2), (fv 3), .ref (ma 4), (fv 5), (fv 6), (fv 7), (fv 8), (fv 9), (fv 10), (fv 11), (fv 12), (fv 13), (fv 14), .int hf, (fv 16), .ref (ma 17), .ref (ma 18), .ref (ma 19), .ref (ma 20), .ref (ma 21), .ref (ma 22), .ref (ma 23), .ref (ma 24), .ref (ma 25), .ref (ma 26), .ref (ma 27), .ref (ma 28), .ref (ma 29), .ref (ma 30), .ref (ma 31), .ref (ma 32), .ref (ma 33), .ref (ma 34), .ref (ma 35), .ref (ma 36), .ref (ma 37), .ref (ma 38), .ref (ma 39), .ref (ma 40), .ref (ma 41), .ref (ma 42), .ref (ma 43), .ref (ma 44), .ref (ma 45), .ref (ma 46), .ref (ma 47), .ref (ma 48), (fv 49), (fv 50), (fv 51), (fv 52), (fv 53), (fv 54), (fv 55), (fv 56), (fv 57), (fv 58), .ref (ma 59), .ref (ma 60), (fv 61), (fv 62), .int (nI st), .int (nI dp), .int 0, .int rv, .ref (ma 67), .ref (ma 68), .ref (ma 69), .int md, (fv 71), .int (nI se), .ref (ma 73)])), ((ma 39), .inl (cy 1, 3400, .inl kf)), ((ma 40), .inl (cy 1, 3400, .inl af)), ((ma 46), .inl (cy 2, 3400, .inr (.inl nf))), ((ma 23), .inl (cy 1, 16, .inl tm)), ((ma 24), .inl (cy 1, 128, .inl mkf)), ((ma 25), .inl (cy 2, 128, .inr (.inl mnf))), ((ma 29), .inl (cy 1, 128, .inl mbf)), ((ma 68), .inl (cy 1, 210, .inl ttf))]) [0, 1, 2, 3, 4, 5, 6, 7, 8] rfl
  have hDc := hD.sub (ws' := [(hm, .inr (12, [.int cd, .ref (ma 1), (fv 2), (fv 3), .ref (ma 4), (fv 5), (fv 6), (fv 7), (fv 8), (fv 9), (fv 10), (fv 11), (fv 12), (fv 13), (fv 14), .int hf, (fv 16), .ref (ma 17), .ref (ma 18), .ref (ma 19), .ref (ma 20), .ref (ma 21), .ref (ma 22), .ref (ma 23), .ref (ma 24), .ref (ma 25), .ref (ma 26), .ref (ma 27), .ref (ma 28), .ref (ma 29), .ref (ma 30), .ref (ma 31), .ref (ma 32), .ref (ma 33), .ref (ma 34), .ref (ma 35), .ref (ma 36), .ref (ma 37), .ref (ma 38), .ref (ma 39), .ref (ma 40), .ref (ma 41), .ref (ma 42), .ref (ma 43), .ref (ma 44), .ref (ma 45), .ref (ma 46), .ref (ma 47), .ref (ma 48), (fv 49), (fv 50), (fv 51), (fv 52), (fv 53), (fv 54), (fv 55), (fv 56), (fv 57), (fv 58), .ref (ma 59), .ref (ma 60), (fv 61), (fv 62), .int (nI st), .int (nI dp), .int 0, .int rv, .ref (ma 67), .ref (ma 68), .ref (ma 69), .int md, (fv 71), .int (nI se), .ref (ma 73)])), ((ma 39), .inl (cy 1, 3400, .inl kf)), ((ma 40), .inl (cy 1, 3400, .inl af)), ((ma 46), .inl (cy 2, 3400, .inr (.inl nf))), ((ma 23), .inl (cy 1, 16, .inl tm)), ((ma 24), .inl (cy 1, 128, .inl mkf)), ((ma 25), .inl (cy 2, 128, .inr (.inl mnf))), ((ma 29), .inl (cy 1, 128, .inl mbf)), ((ma 68), .inl (cy 1, 210, .inl ttf))]) [0, 1, 2, 3, 4, 5, 6, 7, 8] (by decide) rfl
  exact va_dieV  (As := [.long nm]) (rest := []) ⟨hx, hb, hml, hown, hT⟩ (fun k h9 => hN k h9 s.heap.size) (cwV 1 hT (gTBV t_2197 t_2199 t_127 t_153 t_2200) rfl rfl rfl (by decide +kernel) ⟨by decide, by decide⟩) ⟨fun a U g mk q => by obtain ⟨q0, q1, qP, qK, qD⟩ := q; exact ⟨q0, q1, qP, va_K.moved (u := U) (U := U.calling g mk a) (Vm.Alike.refl U.vm) qK, qD⟩, va_recv hK hP (ci := 12) (q0 := 0) rfl rfl, fun U hU hW => ⟨rfl, by rw [hU], by rw [hU]; exact hPc, va_K.moved hW.alike hK, hDc.weaken (fun _ _ _ _ => trivial)⟩⟩ hex hmc hlocks htg rfl rfl hl.1 rfl (lv_room (Nat.le_of_ble_eq_true rfl)) dX12_work_115 rfl rfl (Nat.le_of_ble_eq_true rfl) (Nat.le_of_ble_eq_true rfl)

set_option maxHeartbeats 4000000 in
set_option maxRecDepth 100000 in
theorem e_run2 (l : Launch) (D : va_G) (cy : Nat → ClassId) (sz : Nat) (hm : Nat) (ma : Nat → Nat) (fv : Nat → Value) (kf : Nat → Int32) (af : Nat → Int32) (nf : Nat → Int64) (tm : Nat → Int32) (mkf : Nat → Int32) (mnf : Nat → Int64) (mbf : Nat → Int32) (ttf : Nat → Int32) (kn : Nat → Nat) (nn : Nat) (se : Nat) (tt : Nat) (bb : Nat) (ss : Nat) (nm : Int64) (st : Nat) (dp : Nat) (rv : Int32) (cd : Int32) (md : Int32) (hf : Int32) (mb : Nat) (ms : Nat) (mx : Nat) (fr : Int32) (d : Nat) (h1 : ms < 3400) (h2 : kf ms = 12) (h3 : af ms = nI mx) (hN : ∀ k, d = k + 1 → ∀ (sz : Nat), Dies l yX12_work (.code yX12_work cX12_work 5 (some .int) :: TB) k (va_Pc [.ref hm, .int (nI mx), .int fr] (fun U => U.heap.size = sz ∧ va_P D vwCl [(hm, .inr (12, [.int cd, .ref (ma 1), (fv 2), (fv 3), .ref (ma 4), (fv 5), (fv 6), (fv 7), (fv 8), (fv 9), (fv 10), (fv 11), (fv 12), (fv 13), (fv 14), .int hf, (fv 16), .ref (ma 17), .ref (ma 18), .ref (ma 19), .ref (ma 20), .ref (ma 21), .ref (ma 22), .ref (ma 23), .ref (ma 24), .ref (ma 25), .ref (ma 26), .ref (ma 27), .ref (ma 28), .ref (ma 29), .ref (ma 30), .ref (ma 31), .ref (ma 32), .ref (ma 33), .ref (ma 34), .ref (ma 35), .ref (ma 36), .ref (ma 37), .ref (ma 38), .ref (ma 39), .ref (ma 40), .ref (ma 41), .ref (ma 42), .ref (ma 43), .ref (ma 44), .ref (ma 45), .ref (ma 46), .ref (ma 47), .ref (ma 48), (fv 49), (fv 50), (fv 51), (fv 52), (fv 53), (fv 54), (fv 55), (fv 56), (fv 57), (fv 58), .ref (ma 59), .ref (ma 60), (fv 61), (fv 62), .int (nI st), .int (nI dp), .int 0, .int rv, .ref (ma 67), .ref (ma 68), .ref (ma 69), .int md, (fv 71), .int (nI se), .ref (ma 73)])), ((ma 39), .inl (cy 1, 3400, .inl kf)), ((ma 40), .inl (cy 1, 3400, .inl af)), ((ma 46), .inl (cy 2, 3400, .inr (.inl nf))), ((ma 23), .inl (cy 1, 16, .inl tm)), ((ma 24), .inl (cy 1, 128, .inl mkf)), ((ma 25), .inl (cy 2, 128, .inr (.inl mnf))), ((ma 29), .inl (cy 1, 128, .inl mbf)), ((ma 68), .inl (cy 1, 210, .inl ttf))] U.heap ∧ va_K D vwCl (TY cy) U ∧ va_D (fun _ => True) [(hm, .inr (12, [.int cd, .ref (ma 1), (fv 2), (fv 3), .ref (ma 4), (fv 5), (fv 6), (fv 7), (fv 8), (fv 9), (fv 10), (fv 11), (fv 12), (fv 13), (fv 14), .int hf, (fv 16), .ref (ma 17), .ref (ma 18), .ref (ma 19), .ref (ma 20), .ref (ma 21), .ref (ma 22), .ref (ma 23), .ref (ma 24), .ref (ma 25), .ref (ma 26), .ref (ma 27), .ref (ma 28), .ref (ma 29), .ref (ma 30), .ref (ma 31), .ref (ma 32), .ref (ma 33), .ref (ma 34), .ref (ma 35), .ref (ma 36), .ref (ma 37), .ref (ma 38), .ref (ma 39), .ref (ma 40), .ref (ma 41), .ref (ma 42), .ref (ma 43), .ref (ma 44), .ref (ma 45), .ref (ma 46), .ref (ma 47), .ref (ma 48), (fv 49), (fv 50), (fv 51), (fv 52), (fv 53), (fv 54), (fv 55), (fv 56), (fv 57), (fv 58), .ref (ma 59), .ref (ma 60), (fv 61), (fv 62), .int (nI st), .int (nI dp), .int 0, .int rv, .ref (ma 67), .ref (ma 68), .ref (ma 69), .int md, (fv 71), .int (nI se), .ref (ma 73)])), ((ma 39), .inl (cy 1, 3400, .inl kf)), ((ma 40), .inl (cy 1, 3400, .inl af)), ((ma 46), .inl (cy 2, 3400, .inr (.inl nf))), ((ma 23), .inl (cy 1, 16, .inl tm)), ((ma 24), .inl (cy 1, 128, .inl mkf)), ((ma 25), .inl (cy 2, 128, .inr (.inl mnf))), ((ma 29), .inl (cy 1, 128, .inl mbf)), ((ma 68), .inl (cy 1, 210, .inl ttf))]))) : Dies l yX12_run (.code yX12_run cX12_run 5 (some .int) :: TB) d (va_Pc [.ref hm, .int (nI ms), .int fr] (fun U => U.heap.size = sz ∧ va_P D vwCl [(hm, .inr (12, [.int cd, .ref (ma 1), (fv 2), (fv 3), .ref (ma 4), (fv 5), (fv 6), (fv 7), (fv 8), (fv 9), (fv 10), (fv 11), (fv 12), (fv 13), (fv 14), .int hf, (fv 16), .ref (ma 17), .ref (ma 18), .ref (ma 19), .ref (ma 20), .ref (ma 21), .ref (ma 22), .ref (ma 23), .ref (ma 24), .ref (ma 25), .ref (ma 26), .ref (ma 27), .ref (ma 28), .ref (ma 29), .ref (ma 30), .ref (ma 31), .ref (ma 32), .ref (ma 33), .ref (ma 34), .ref (ma 35), .ref (ma 36), .ref (ma 37), .ref (ma 38), .ref (ma 39), .ref (ma 40), .ref (ma 41), .ref (ma 42), .ref (ma 43), .ref (ma 44), .ref (ma 45), .ref (ma 46), .ref (ma 47), .ref (ma 48), (fv 49), (fv 50), (fv 51), (fv 52), (fv 53), (fv 54), (fv 55), (fv 56), (fv 57), (fv 58), .ref (ma 59), .ref (ma 60), (fv 61), (fv 62), .int (nI st), .int (nI dp), .int 0, .int rv, .ref (ma 67), .ref (ma 68), .ref (ma 69), .int md, (fv 71), .int (nI se), .ref (ma 73)])), ((ma 39), .inl (cy 1, 3400, .inl kf)), ((ma 40), .inl (cy 1, 3400, .inl af)), ((ma 46), .inl (cy 2, 3400, .inr (.inl nf))), ((ma 23), .inl (cy 1, 16, .inl tm)), ((ma 24), .inl (cy 1, 128, .inl mkf)), ((ma 25), .inl (cy 2, 128, .inr (.inl mnf))), ((ma 29), .inl (cy 1, 128, .inl mbf)), ((ma 68), .inl (cy 1, 210, .inl ttf))] U.heap ∧ va_K D vwCl (TY cy) U ∧ va_D (fun _ => True) [(hm, .inr (12, [.int cd, .ref (ma 1), (fv 2), (fv 3), .ref (ma 4), (fv 5), (fv 6), (fv 7), (fv 8), (fv 9), (fv 10), (fv 11), (fv 12), (fv 13), (fv 14), .int hf, (fv 16), .ref (ma 17), .ref (ma 18), .ref (ma 19), .ref (ma 20), .ref (ma 21), .ref (ma 22), .ref (ma 23), .ref (ma 24), .ref (ma 25), .ref (ma 26), .ref (ma 27), .ref (ma 28), .ref (ma 29), .ref (ma 30), .ref (ma 31), .ref (ma 32), .ref (ma 33), .ref (ma 34), .ref (ma 35), .ref (ma 36), .ref (ma 37), .ref (ma 38), .ref (ma 39), .ref (ma 40), .ref (ma 41), .ref (ma 42), .ref (ma 43), .ref (ma 44), .ref (ma 45), .ref (ma 46), .ref (ma 47), .ref (ma 48), (fv 49), (fv 50), (fv 51), (fv 52), (fv 53), (fv 54), (fv 55), (fv 56), (fv 57), (fv 58), .ref (ma 59), .ref (ma 60), (fv 61), (fv 62), .int (nI st), .int (nI dp), .int 0, .int rv, .ref (ma 67), .ref (ma 68), .ref (ma 69), .int md, (fv 71), .int (nI se), .ref (ma 73)])), ((ma 39), .inl (cy 1, 3400, .inl kf)), ((ma 40), .inl (cy 1, 3400, .inl af)), ((ma 46), .inl (cy 2, 3400, .inr (.inl nf))), ((ma 23), .inl (cy 1, 16, .inl tm)), ((ma 24), .inl (cy 1, 128, .inl mkf)), ((ma 25), .inl (cy 2, 128, .inr (.inl mnf))), ((ma 29), .inl (cy 1, 128, .inl mbf)), ((ma 68), .inl (cy 1, 210, .inl ttf))])) := by
  refine Dies.ofW (cc := cX12_run) (maxL := 5) (ret := (some .int)) (by decide) rfl ?_
  intro p e s m args below meth c s₁ B hml hex hmc htg hv
  obtain ⟨rfl, hsz, hP, hK, hD0⟩ := hv
  have hx := B.exec
  have hb := B.bytes
  have hr := B.returns
  have hts := atoms_spec (ws := .code yX12_run cX12_run 5 (some .int) :: TB) B.pre
  have hT : ∀ w ∈ TB, w.before _ s = true := fun w h => hts w (List.mem_cons_of_mem _ h)
  have hown : s.vm.findClass "MakerStartsModel" = some m.cls := findClass_of_methodNamed B.named
  have hlocks := B.notSynchronized
  subst hsz
  have hD := hD0.self (sz := s.heap.size)
  generalize hAe : va_A [(hm, .inr (12, [.int cd, .ref (ma 1), (fv 2), (fv 3), .ref (ma 4), (fv 5), (fv 6), (fv 7), (fv 8), (fv 9), (fv 10), (fv 11), (fv 12), (fv 13), (fv 14), .int hf, (fv 16), .ref (ma 17), .ref (ma 18), .ref (ma 19), .ref (ma 20), .ref (ma 21), .ref (ma 22), .ref (ma 23), .ref (ma 24), .ref (ma 25), .ref (ma 26), .ref (ma 27), .ref (ma 28), .ref (ma 29), .ref (ma 30), .ref (ma 31), .ref (ma 32), .ref (ma 33), .ref (ma 34), .ref (ma 35), .ref (ma 36), .ref (ma 37), .ref (ma 38), .ref (ma 39), .ref (ma 40), .ref (ma 41), .ref (ma 42), .ref (ma 43), .ref (ma 44), .ref (ma 45), .ref (ma 46), .ref (ma 47), .ref (ma 48), (fv 49), (fv 50), (fv 51), (fv 52), (fv 53), (fv 54), (fv 55), (fv 56), (fv 57), (fv 58), .ref (ma 59), .ref (ma 60), (fv 61), (fv 62), .int (nI st), .int (nI dp), .int 0, .int rv, .ref (ma 67), .ref (ma 68), .ref (ma 69), .int md, (fv 71), .int (nI se), .ref (ma 73)])), ((ma 39), .inl (cy 1, 3400, .inl kf)), ((ma 40), .inl (cy 1, 3400, .inl af)), ((ma 46), .inl (cy 2, 3400, .inr (.inl nf))), ((ma 23), .inl (cy 1, 16, .inl tm)), ((ma 24), .inl (cy 1, 128, .inl mkf)), ((ma 25), .inl (cy 2, 128, .inr (.inl mnf))), ((ma 29), .inl (cy 1, 128, .inl mbf)), ((ma 68), .inl (cy 1, 210, .inl ttf))] s.heap.size = A at hD  ⊢
  have hA : ∀ q : Nat, s.heap.size ≤ q → A q := fun q h => by rw [← hAe]; exact Or.inr h
  have hS : va_S A s.heap s.heap [] := va_S.rf
  have hP : va_P D vwCl [(hm, .inr (12, [.int cd, .ref (ma 1), (fv 2), (fv 3), .ref (ma 4), (fv 5), (fv 6), (fv 7), (fv 8), (fv 9), (fv 10), (fv 11), (fv 12), (fv 13), (fv 14), .int hf, (fv 16), .ref (ma 17), .ref (ma 18), .ref (ma 19), .ref (ma 20), .ref (ma 21), .ref (ma 22), .ref (ma 23), .ref (ma 24), .ref (ma 25), .ref (ma 26), .ref (ma 27), .ref (ma 28), .ref (ma 29), .ref (ma 30), .ref (ma 31), .ref (ma 32), .ref (ma 33), .ref (ma 34), .ref (ma 35), .ref (ma 36), .ref (ma 37), .ref (ma 38), .ref (ma 39), .ref (ma 40), .ref (ma 41), .ref (ma 42), .ref (ma 43), .ref (ma 44), .ref (ma 45), .ref (ma 46), .ref (ma 47), .ref (ma 48), (fv 49), (fv 50), (fv 51), (fv 52), (fv 53), (fv 54), (fv 55), (fv 56), (fv 57), (fv 58), .ref (ma 59), .ref (ma 60), (fv 61), (fv 62), .int (nI st), .int (nI dp), .int 0, .int rv, .ref (ma 67), .ref (ma 68), .ref (ma 69), .int md, (fv 71), .int (nI se), .ref (ma 73)])), ((ma 39), .inl (cy 1, 3400, .inl kf)), ((ma 40), .inl (cy 1, 3400, .inl af)), ((ma 46), .inl (cy 2, 3400, .inr (.inl nf))), ((ma 23), .inl (cy 1, 16, .inl tm)), ((ma 24), .inl (cy 1, 128, .inl mkf)), ((ma 25), .inl (cy 2, 128, .inr (.inl mnf))), ((ma 29), .inl (cy 1, 128, .inl mbf)), ((ma 68), .inl (cy 1, 210, .inl ttf))] s.heap := hP
  have hl := lv_entry ([.ref hm, .int (nI ms), .int fr]) (n := 5) (Nat.le_of_ble_eq_true rfl)
  rw [lg_entry_eq]
  generalize (lg_sl ([.ref hm, .int (nI ms), .int fr]) ++ List.replicate (5 - (lg_sl ([.ref hm, .int (nI ms), .int fr])).length) Slot.unset).toArray = ls at hl ⊢
  have hl : lv_has ls 5 [(0, .ref hm), (1, .int (nI ms)), (2, .int fr)] := hl
  refine lv_aload_n hx hb dX12_run_0 rfl (lv_at hl 0 rfl) ?_
  refine va_get (D := D) (ci := 12) (v := .ref (ma 39)) (C := RX12) (T := TX12) (N := 74) hx hb hT i_TX12 hown hK hP 0 rfl rfl 39 (by decide) (hT _ t_1754) (fun _ h9 => h9) rfl dX12_run_1 ?_
  refine lv_iload_n hx hb dX12_run_4 rfl (lv_at hl 1 rfl) ?_
  refine va_iald hx hb hK hP 1 1 rfl rfl (vp_in_nI h1 (by decide)) dX12_run_5 ?_
  refine lv_topi (fun z1 e2 => ?_)
  obtain rfl : z1 = 12 := e2.trans (by rw [nI_clamp (n := ms) (by omega)]; exact h2)
  refine lv_tableIn (off := 167) (tgt := 173) hx hb dX12_run_6 (by decide) (by decide) (by decide) (by decide) ?_
  refine lv_aload_n hx hb dX12_run_173 rfl (lv_at hl 0 rfl) ?_
  refine lv_aload_n hx hb dX12_run_174 rfl (lv_at hl 0 rfl) ?_
  refine va_get (D := D) (ci := 12) (v := .ref (ma 40)) (C := RX12) (T := TX12) (N := 74) hx hb hT i_TX12 hown hK hP 0 rfl rfl 40 (by decide) (hT _ t_1755) (fun _ h9 => h9) rfl dX12_run_175 ?_
  refine lv_iload_n hx hb dX12_run_178 rfl (lv_at hl 1 rfl) ?_
  refine va_iald hx hb hK hP 2 1 rfl rfl (vp_in_nI h1 (by decide)) dX12_run_179 ?_
  refine lv_topi (fun z3 e4 => ?_)
  obtain rfl : z3 = (nI mx) := e4.trans (by rw [nI_clamp (n := ms) (by omega)]; exact h3)
  refine lv_iload_n hx hb dX12_run_180 rfl (lv_at hl 2 rfl) ?_
  have hPc := hP.sub (ws' := [(hm, .inr (12, [.int cd, .ref (ma 1), (fv 2), (fv 3), .ref (ma 4), (fv 5), (fv 6), (fv 7), (fv 8), (fv 9), (fv 10), (fv 11), (fv 12), (fv 13), (fv 14), .int hf, (fv 16), .ref (ma 17), .ref (ma 18), .ref (ma 19), .ref (ma 20), .ref (ma 21), .ref (ma 22), .ref (ma 23), .ref (ma 24), .ref (ma 25), .ref (ma 26), .ref (ma 27), .ref (ma 28), .ref (ma 29), .ref (ma 30), .ref (ma 31), .ref (ma 32), .ref (ma 33), .ref (ma 34), .ref (ma 35), .ref (ma 36), .ref (ma 37), .ref (ma 38), .ref (ma 39), .ref (ma 40), .ref (ma 41), .ref (ma 42), .ref (ma 43), .ref (ma 44), .ref (ma 45), .ref (ma 46), .ref (ma 47), .ref (ma 48), (fv 49), (fv 50), (fv 51), (fv 52), (fv 53), (fv 54), (fv 55), (fv 56), (fv 57), (fv 58), .ref (ma 59), .ref (ma 60), (fv 61), (fv 62), .int (nI st), .int (nI dp), .int 0, .int rv, .ref (ma 67), .ref (ma 68), .ref (ma 69), .int md, (fv 71), .int (nI se), .ref (ma 73)])), ((ma 39), .inl (cy 1, 3400, .inl kf)), ((ma 40), .inl (cy 1, 3400, .inl af)), ((ma 46), .inl (cy 2, 3400, .inr (.inl nf))), ((ma 23), .inl (cy 1, 16, .inl tm)), ((ma 24), .inl (cy 1, 128, .inl mkf)), ((ma 25), .inl (cy 2, 128, .inr (.inl mnf))), ((ma 29), .inl (cy 1, 128, .inl mbf)), ((ma 68), .inl (cy 1, 210, .inl ttf))]) [0, 1, 2, 3, 4, 5, 6, 7, 8] rfl
  have hDc := hD.sub (ws' := [(hm, .inr (12, [.int cd, .ref (ma 1), (fv 2), (fv 3), .ref (ma 4), (fv 5), (fv 6), (fv 7), (fv 8), (fv 9), (fv 10), (fv 11), (fv 12), (fv 13), (fv 14), .int hf, (fv 16), .ref (ma 17), .ref (ma 18), .ref (ma 19), .ref (ma 20), .ref (ma 21), .ref (ma 22), .ref (ma 23), .ref (ma 24), .ref (ma 25), .ref (ma 26), .ref (ma 27), .ref (ma 28), .ref (ma 29), .ref (ma 30), .ref (ma 31), .ref (ma 32), .ref (ma 33), .ref (ma 34), .ref (ma 35), .ref (ma 36), .ref (ma 37), .ref (ma 38), .ref (ma 39), .ref (ma 40), .ref (ma 41), .ref (ma 42), .ref (ma 43), .ref (ma 44), .ref (ma 45), .ref (ma 46), .ref (ma 47), .ref (ma 48), (fv 49), (fv 50), (fv 51), (fv 52), (fv 53), (fv 54), (fv 55), (fv 56), (fv 57), (fv 58), .ref (ma 59), .ref (ma 60), (fv 61), (fv 62), .int (nI st), .int (nI dp), .int 0, .int rv, .ref (ma 67), .ref (ma 68), .ref (ma 69), .int md, (fv 71), .int (nI se), .ref (ma 73)])), ((ma 39), .inl (cy 1, 3400, .inl kf)), ((ma 40), .inl (cy 1, 3400, .inl af)), ((ma 46), .inl (cy 2, 3400, .inr (.inl nf))), ((ma 23), .inl (cy 1, 16, .inl tm)), ((ma 24), .inl (cy 1, 128, .inl mkf)), ((ma 25), .inl (cy 2, 128, .inr (.inl mnf))), ((ma 29), .inl (cy 1, 128, .inl mbf)), ((ma 68), .inl (cy 1, 210, .inl ttf))]) [0, 1, 2, 3, 4, 5, 6, 7, 8] (by decide) rfl
  exact va_dieV  (As := [.int (nI mx), .int fr]) (rest := []) ⟨hx, hb, hml, hown, hT⟩ (fun k h9 => hN k h9 s.heap.size) (cwV 2 hT (gTBV t_2189 t_2191 t_125 t_153 t_2192) rfl rfl rfl (by decide +kernel) ⟨by decide, by decide⟩) ⟨fun a U g mk q => by obtain ⟨q0, q1, qP, qK, qD⟩ := q; exact ⟨q0, q1, qP, va_K.moved (u := U) (U := U.calling g mk a) (Vm.Alike.refl U.vm) qK, qD⟩, va_recv hK hP (ci := 12) (q0 := 0) rfl rfl, fun U hU hW => ⟨rfl, by rw [hU], by rw [hU]; exact hPc, va_K.moved hW.alike hK, hDc.weaken (fun _ _ _ _ => trivial)⟩⟩ hex hmc hlocks htg rfl rfl hl.1 rfl (lv_room (Nat.le_of_ble_eq_true rfl)) dX12_run_181 rfl rfl (Nat.le_of_ble_eq_true rfl) (Nat.le_of_ble_eq_true rfl)

set_option maxHeartbeats 4000000 in
set_option maxRecDepth 100000 in
theorem e_body2 (l : Launch) (D : va_G) (cy : Nat → ClassId) (sz : Nat) (hm : Nat) (ma : Nat → Nat) (fv : Nat → Value) (kf : Nat → Int32) (af : Nat → Int32) (nf : Nat → Int64) (tm : Nat → Int32) (mkf : Nat → Int32) (mnf : Nat → Int64) (mbf : Nat → Int32) (ttf : Nat → Int32) (kn : Nat → Nat) (nn : Nat) (se : Nat) (tt : Nat) (bb : Nat) (ss : Nat) (nm : Int64) (st : Nat) (dp : Nat) (rv : Int32) (cd : Int32) (md : Int32) (hf : Int32) (mb : Nat) (ms : Nat) (mx : Nat) (fr : Int32) (d : Nat) (h1 : mb < 3400) (h2 : af mb = nI ms) (h3 : 0 < ms) (h4 : ms < 3400) (hs : st < 120) (hN : ∀ k, d = k + 1 → ∀ (sz : Nat), Dies l yX12_run (.code yX12_run cX12_run 5 (some .int) :: TB) k (va_Pc [.ref hm, .int (nI ms), .int fr] (fun U => U.heap.size = sz ∧ va_P D vwCl [(hm, .inr (12, [.int cd, .ref (ma 1), (fv 2), (fv 3), .ref (ma 4), (fv 5), (fv 6), (fv 7), (fv 8), (fv 9), (fv 10), (fv 11), (fv 12), (fv 13), (fv 14), .int hf, (fv 16), .ref (ma 17), .ref (ma 18), .ref (ma 19), .ref (ma 20), .ref (ma 21), .ref (ma 22), .ref (ma 23), .ref (ma 24), .ref (ma 25), .ref (ma 26), .ref (ma 27), .ref (ma 28), .ref (ma 29), .ref (ma 30), .ref (ma 31), .ref (ma 32), .ref (ma 33), .ref (ma 34), .ref (ma 35), .ref (ma 36), .ref (ma 37), .ref (ma 38), .ref (ma 39), .ref (ma 40), .ref (ma 41), .ref (ma 42), .ref (ma 43), .ref (ma 44), .ref (ma 45), .ref (ma 46), .ref (ma 47), .ref (ma 48), (fv 49), (fv 50), (fv 51), (fv 52), (fv 53), (fv 54), (fv 55), (fv 56), (fv 57), (fv 58), .ref (ma 59), .ref (ma 60), (fv 61), (fv 62), .int (nI (st + 1)), .int (nI dp), .int 0, .int rv, .ref (ma 67), .ref (ma 68), .ref (ma 69), .int md, (fv 71), .int (nI se), .ref (ma 73)])), ((ma 39), .inl (cy 1, 3400, .inl kf)), ((ma 40), .inl (cy 1, 3400, .inl af)), ((ma 46), .inl (cy 2, 3400, .inr (.inl nf))), ((ma 23), .inl (cy 1, 16, .inl tm)), ((ma 24), .inl (cy 1, 128, .inl mkf)), ((ma 25), .inl (cy 2, 128, .inr (.inl mnf))), ((ma 29), .inl (cy 1, 128, .inl mbf)), ((ma 68), .inl (cy 1, 210, .inl ttf))] U.heap ∧ va_K D vwCl (TY cy) U ∧ va_D (fun _ => True) [(hm, .inr (12, [.int cd, .ref (ma 1), (fv 2), (fv 3), .ref (ma 4), (fv 5), (fv 6), (fv 7), (fv 8), (fv 9), (fv 10), (fv 11), (fv 12), (fv 13), (fv 14), .int hf, (fv 16), .ref (ma 17), .ref (ma 18), .ref (ma 19), .ref (ma 20), .ref (ma 21), .ref (ma 22), .ref (ma 23), .ref (ma 24), .ref (ma 25), .ref (ma 26), .ref (ma 27), .ref (ma 28), .ref (ma 29), .ref (ma 30), .ref (ma 31), .ref (ma 32), .ref (ma 33), .ref (ma 34), .ref (ma 35), .ref (ma 36), .ref (ma 37), .ref (ma 38), .ref (ma 39), .ref (ma 40), .ref (ma 41), .ref (ma 42), .ref (ma 43), .ref (ma 44), .ref (ma 45), .ref (ma 46), .ref (ma 47), .ref (ma 48), (fv 49), (fv 50), (fv 51), (fv 52), (fv 53), (fv 54), (fv 55), (fv 56), (fv 57), (fv 58), .ref (ma 59), .ref (ma 60), (fv 61), (fv 62), .int (nI (st + 1)), .int (nI dp), .int 0, .int rv, .ref (ma 67), .ref (ma 68), .ref (ma 69), .int md, (fv 71), .int (nI se), .ref (ma 73)])), ((ma 39), .inl (cy 1, 3400, .inl kf)), ((ma 40), .inl (cy 1, 3400, .inl af)), ((ma 46), .inl (cy 2, 3400, .inr (.inl nf))), ((ma 23), .inl (cy 1, 16, .inl tm)), ((ma 24), .inl (cy 1, 128, .inl mkf)), ((ma 25), .inl (cy 2, 128, .inr (.inl mnf))), ((ma 29), .inl (cy 1, 128, .inl mbf)), ((ma 68), .inl (cy 1, 210, .inl ttf))]))) : Dies l yX12_runBody (.code yX12_runBody cX12_runBody 5 (some .int) :: TB) d (va_Pc [.ref hm, .int (nI mb), .int fr] (fun U => U.heap.size = sz ∧ va_P D vwCl [(hm, .inr (12, [.int cd, .ref (ma 1), (fv 2), (fv 3), .ref (ma 4), (fv 5), (fv 6), (fv 7), (fv 8), (fv 9), (fv 10), (fv 11), (fv 12), (fv 13), (fv 14), .int hf, (fv 16), .ref (ma 17), .ref (ma 18), .ref (ma 19), .ref (ma 20), .ref (ma 21), .ref (ma 22), .ref (ma 23), .ref (ma 24), .ref (ma 25), .ref (ma 26), .ref (ma 27), .ref (ma 28), .ref (ma 29), .ref (ma 30), .ref (ma 31), .ref (ma 32), .ref (ma 33), .ref (ma 34), .ref (ma 35), .ref (ma 36), .ref (ma 37), .ref (ma 38), .ref (ma 39), .ref (ma 40), .ref (ma 41), .ref (ma 42), .ref (ma 43), .ref (ma 44), .ref (ma 45), .ref (ma 46), .ref (ma 47), .ref (ma 48), (fv 49), (fv 50), (fv 51), (fv 52), (fv 53), (fv 54), (fv 55), (fv 56), (fv 57), (fv 58), .ref (ma 59), .ref (ma 60), (fv 61), (fv 62), .int (nI st), .int (nI dp), .int 0, .int rv, .ref (ma 67), .ref (ma 68), .ref (ma 69), .int md, (fv 71), .int (nI se), .ref (ma 73)])), ((ma 39), .inl (cy 1, 3400, .inl kf)), ((ma 40), .inl (cy 1, 3400, .inl af)), ((ma 46), .inl (cy 2, 3400, .inr (.inl nf))), ((ma 23), .inl (cy 1, 16, .inl tm)), ((ma 24), .inl (cy 1, 128, .inl mkf)), ((ma 25), .inl (cy 2, 128, .inr (.inl mnf))), ((ma 29), .inl (cy 1, 128, .inl mbf)), ((ma 68), .inl (cy 1, 210, .inl ttf))] U.heap ∧ va_K D vwCl (TY cy) U ∧ va_D (fun _ => True) [(hm, .inr (12, [.int cd, .ref (ma 1), (fv 2), (fv 3), .ref (ma 4), (fv 5), (fv 6), (fv 7), (fv 8), (fv 9), (fv 10), (fv 11), (fv 12), (fv 13), (fv 14), .int hf, (fv 16), .ref (ma 17), .ref (ma 18), .ref (ma 19), .ref (ma 20), .ref (ma 21), .ref (ma 22), .ref (ma 23), .ref (ma 24), .ref (ma 25), .ref (ma 26), .ref (ma 27), .ref (ma 28), .ref (ma 29), .ref (ma 30), .ref (ma 31), .ref (ma 32), .ref (ma 33), .ref (ma 34), .ref (ma 35), .ref (ma 36), .ref (ma 37), .ref (ma 38), .ref (ma 39), .ref (ma 40), .ref (ma 41), .ref (ma 42), .ref (ma 43), .ref (ma 44), .ref (ma 45), .ref (ma 46), .ref (ma 47), .ref (ma 48), (fv 49), (fv 50), (fv 51), (fv 52), (fv 53), (fv 54), (fv 55), (fv 56), (fv 57), (fv 58), .ref (ma 59), .ref (ma 60), (fv 61), (fv 62), .int (nI st), .int (nI dp), .int 0, .int rv, .ref (ma 67), .ref (ma 68), .ref (ma 69), .int md, (fv 71), .int (nI se), .ref (ma 73)])), ((ma 39), .inl (cy 1, 3400, .inl kf)), ((ma 40), .inl (cy 1, 3400, .inl af)), ((ma 46), .inl (cy 2, 3400, .inr (.inl nf))), ((ma 23), .inl (cy 1, 16, .inl tm)), ((ma 24), .inl (cy 1, 128, .inl mkf)), ((ma 25), .inl (cy 2, 128, .inr (.inl mnf))), ((ma 29), .inl (cy 1, 128, .inl mbf)), ((ma 68), .inl (cy 1, 210, .inl ttf))])) := by
  refine Dies.ofW (cc := cX12_runBody) (maxL := 5) (ret := (some .int)) (by decide) rfl ?_
  intro p e s m args below meth c s₁ B hml hex hmc htg hv
  obtain ⟨rfl, hsz, hP, hK, hD0⟩ := hv
  have hx := B.exec
  have hb := B.bytes
  have hr := B.returns
  have hts := atoms_spec (ws := .code yX12_runBody cX12_runBody 5 (some .int) :: TB) B.pre
  have hT : ∀ w ∈ TB, w.before _ s = true := fun w h => hts w (List.mem_cons_of_mem _ h)
  have hown : s.vm.findClass "MakerStartsModel" = some m.cls := findClass_of_methodNamed B.named
  have hlocks := B.notSynchronized
  subst hsz
  have hD := hD0.self (sz := s.heap.size)
  generalize hAe : va_A [(hm, .inr (12, [.int cd, .ref (ma 1), (fv 2), (fv 3), .ref (ma 4), (fv 5), (fv 6), (fv 7), (fv 8), (fv 9), (fv 10), (fv 11), (fv 12), (fv 13), (fv 14), .int hf, (fv 16), .ref (ma 17), .ref (ma 18), .ref (ma 19), .ref (ma 20), .ref (ma 21), .ref (ma 22), .ref (ma 23), .ref (ma 24), .ref (ma 25), .ref (ma 26), .ref (ma 27), .ref (ma 28), .ref (ma 29), .ref (ma 30), .ref (ma 31), .ref (ma 32), .ref (ma 33), .ref (ma 34), .ref (ma 35), .ref (ma 36), .ref (ma 37), .ref (ma 38), .ref (ma 39), .ref (ma 40), .ref (ma 41), .ref (ma 42), .ref (ma 43), .ref (ma 44), .ref (ma 45), .ref (ma 46), .ref (ma 47), .ref (ma 48), (fv 49), (fv 50), (fv 51), (fv 52), (fv 53), (fv 54), (fv 55), (fv 56), (fv 57), (fv 58), .ref (ma 59), .ref (ma 60), (fv 61), (fv 62), .int (nI st), .int (nI dp), .int 0, .int rv, .ref (ma 67), .ref (ma 68), .ref (ma 69), .int md, (fv 71), .int (nI se), .ref (ma 73)])), ((ma 39), .inl (cy 1, 3400, .inl kf)), ((ma 40), .inl (cy 1, 3400, .inl af)), ((ma 46), .inl (cy 2, 3400, .inr (.inl nf))), ((ma 23), .inl (cy 1, 16, .inl tm)), ((ma 24), .inl (cy 1, 128, .inl mkf)), ((ma 25), .inl (cy 2, 128, .inr (.inl mnf))), ((ma 29), .inl (cy 1, 128, .inl mbf)), ((ma 68), .inl (cy 1, 210, .inl ttf))] s.heap.size = A at hD  ⊢
  have hA : ∀ q : Nat, s.heap.size ≤ q → A q := fun q h => by rw [← hAe]; exact Or.inr h
  have hS : va_S A s.heap s.heap [] := va_S.rf
  have hP : va_P D vwCl [(hm, .inr (12, [.int cd, .ref (ma 1), (fv 2), (fv 3), .ref (ma 4), (fv 5), (fv 6), (fv 7), (fv 8), (fv 9), (fv 10), (fv 11), (fv 12), (fv 13), (fv 14), .int hf, (fv 16), .ref (ma 17), .ref (ma 18), .ref (ma 19), .ref (ma 20), .ref (ma 21), .ref (ma 22), .ref (ma 23), .ref (ma 24), .ref (ma 25), .ref (ma 26), .ref (ma 27), .ref (ma 28), .ref (ma 29), .ref (ma 30), .ref (ma 31), .ref (ma 32), .ref (ma 33), .ref (ma 34), .ref (ma 35), .ref (ma 36), .ref (ma 37), .ref (ma 38), .ref (ma 39), .ref (ma 40), .ref (ma 41), .ref (ma 42), .ref (ma 43), .ref (ma 44), .ref (ma 45), .ref (ma 46), .ref (ma 47), .ref (ma 48), (fv 49), (fv 50), (fv 51), (fv 52), (fv 53), (fv 54), (fv 55), (fv 56), (fv 57), (fv 58), .ref (ma 59), .ref (ma 60), (fv 61), (fv 62), .int (nI st), .int (nI dp), .int 0, .int rv, .ref (ma 67), .ref (ma 68), .ref (ma 69), .int md, (fv 71), .int (nI se), .ref (ma 73)])), ((ma 39), .inl (cy 1, 3400, .inl kf)), ((ma 40), .inl (cy 1, 3400, .inl af)), ((ma 46), .inl (cy 2, 3400, .inr (.inl nf))), ((ma 23), .inl (cy 1, 16, .inl tm)), ((ma 24), .inl (cy 1, 128, .inl mkf)), ((ma 25), .inl (cy 2, 128, .inr (.inl mnf))), ((ma 29), .inl (cy 1, 128, .inl mbf)), ((ma 68), .inl (cy 1, 210, .inl ttf))] s.heap := hP
  have hl := lv_entry ([.ref hm, .int (nI mb), .int fr]) (n := 5) (Nat.le_of_ble_eq_true rfl)
  rw [lg_entry_eq]
  generalize (lg_sl ([.ref hm, .int (nI mb), .int fr]) ++ List.replicate (5 - (lg_sl ([.ref hm, .int (nI mb), .int fr])).length) Slot.unset).toArray = ls at hl ⊢
  have hl : lv_has ls 5 [(0, .ref hm), (1, .int (nI mb)), (2, .int fr)] := hl
  refine lv_aload_n hx hb dX12_runBody_0 rfl (lv_at hl 0 rfl) ?_
  refine va_get (D := D) (ci := 12) (v := .ref (ma 40)) (C := RX12) (T := TX12) (N := 74) hx hb hT i_TX12 hown hK hP 0 rfl rfl 40 (by decide) (hT _ t_1755) (fun _ h9 => h9) rfl dX12_runBody_1 ?_
  refine lv_iload_n hx hb dX12_runBody_4 rfl (lv_at hl 1 rfl) ?_
  refine va_iald hx hb hK hP 2 1 rfl rfl (vp_in_nI h1 (by decide)) dX12_runBody_5 ?_
  refine lv_topi (fun z1 e2 => ?_)
  obtain rfl : z1 = (nI ms) := e2.trans (by rw [nI_clamp (n := mb) (by omega)]; exact h2)
  refine lv_istore_n (lv' := [(3, .int (nI ms)), (0, .ref hm), (1, .int (nI mb)), (2, .int fr)]) hx hb dX12_runBody_6 rfl hl (by decide) rfl (fun ls hl => ?_)
  refine lv_iload_n hx hb dX12_runBody_7 rfl (lv_at hl 0 rfl) ?_
  refine lv_if_eq (tgt := 46) hx hb dX12_runBody_8 (by decide) (fun c9 => absurd c9 (nI_ne0 h3 (by omega))) (fun _ => ?_)
  refine lv_aload_n hx hb dX12_runBody_11 rfl (lv_at hl 1 rfl) ?_
  rcases Nat.eq_zero_or_pos d with rfl | hpos
  · exact va_dieV (Pc := fun _ _ => True) (ws := .code yX12_steps cX12_steps 1 (some .boolean) :: TB) (As := []) (rest := []) ⟨hx, hb, hml, hown, hT⟩ (fun k h9 => absurd h9 (by omega)) (cwV 0 hT (gTBV t_2181 t_2183 t_123 t_153 t_2184) rfl rfl rfl (by decide +kernel) ⟨by decide, by decide⟩) ⟨fun _ _ _ _ _ => trivial, va_recv hK hP (ci := 12) (q0 := 0) rfl rfl, fun _ _ _ => trivial⟩ hex hmc hlocks htg rfl rfl hl.1 rfl (lv_room (Nat.le_of_ble_eq_true rfl)) dX12_runBody_12 rfl rfl (Nat.le_of_ble_eq_true rfl) (Nat.le_of_ble_eq_true rfl)
  · obtain ⟨k, rfl⟩ : ∃ k, d = k + 1 := ⟨d - 1, by omega⟩
    have hPc := hP.sub (ws' := [(hm, .inr (12, [.int cd, .ref (ma 1), (fv 2), (fv 3), .ref (ma 4), (fv 5), (fv 6), (fv 7), (fv 8), (fv 9), (fv 10), (fv 11), (fv 12), (fv 13), (fv 14), .int hf, (fv 16), .ref (ma 17), .ref (ma 18), .ref (ma 19), .ref (ma 20), .ref (ma 21), .ref (ma 22), .ref (ma 23), .ref (ma 24), .ref (ma 25), .ref (ma 26), .ref (ma 27), .ref (ma 28), .ref (ma 29), .ref (ma 30), .ref (ma 31), .ref (ma 32), .ref (ma 33), .ref (ma 34), .ref (ma 35), .ref (ma 36), .ref (ma 37), .ref (ma 38), .ref (ma 39), .ref (ma 40), .ref (ma 41), .ref (ma 42), .ref (ma 43), .ref (ma 44), .ref (ma 45), .ref (ma 46), .ref (ma 47), .ref (ma 48), (fv 49), (fv 50), (fv 51), (fv 52), (fv 53), (fv 54), (fv 55), (fv 56), (fv 57), (fv 58), .ref (ma 59), .ref (ma 60), (fv 61), (fv 62), .int (nI st), .int (nI dp), .int 0, .int rv, .ref (ma 67), .ref (ma 68), .ref (ma 69), .int md, (fv 71), .int (nI se), .ref (ma 73)]))]) [0] rfl
    have hDc := hD.sub (ws' := [(hm, .inr (12, [.int cd, .ref (ma 1), (fv 2), (fv 3), .ref (ma 4), (fv 5), (fv 6), (fv 7), (fv 8), (fv 9), (fv 10), (fv 11), (fv 12), (fv 13), (fv 14), .int hf, (fv 16), .ref (ma 17), .ref (ma 18), .ref (ma 19), .ref (ma 20), .ref (ma 21), .ref (ma 22), .ref (ma 23), .ref (ma 24), .ref (ma 25), .ref (ma 26), .ref (ma 27), .ref (ma 28), .ref (ma 29), .ref (ma 30), .ref (ma 31), .ref (ma 32), .ref (ma 33), .ref (ma 34), .ref (ma 35), .ref (ma 36), .ref (ma 37), .ref (ma 38), .ref (ma 39), .ref (ma 40), .ref (ma 41), .ref (ma 42), .ref (ma 43), .ref (ma 44), .ref (ma 45), .ref (ma 46), .ref (ma 47), .ref (ma 48), (fv 49), (fv 50), (fv 51), (fv 52), (fv 53), (fv 54), (fv 55), (fv 56), (fv 57), (fv 58), .ref (ma 59), .ref (ma 60), (fv 61), (fv 62), .int (nI st), .int (nI dp), .int 0, .int rv, .ref (ma 67), .ref (ma 68), .ref (ma 69), .int md, (fv 71), .int (nI se), .ref (ma 73)]))]) [0] (by decide) rfl
    have hFc := va_free (wc := [(hm, .inr (12, [.int cd, .ref (ma 1), (fv 2), (fv 3), .ref (ma 4), (fv 5), (fv 6), (fv 7), (fv 8), (fv 9), (fv 10), (fv 11), (fv 12), (fv 13), (fv 14), .int hf, (fv 16), .ref (ma 17), .ref (ma 18), .ref (ma 19), .ref (ma 20), .ref (ma 21), .ref (ma 22), .ref (ma 23), .ref (ma 24), .ref (ma 25), .ref (ma 26), .ref (ma 27), .ref (ma 28), .ref (ma 29), .ref (ma 30), .ref (ma 31), .ref (ma 32), .ref (ma 33), .ref (ma 34), .ref (ma 35), .ref (ma 36), .ref (ma 37), .ref (ma 38), .ref (ma 39), .ref (ma 40), .ref (ma 41), .ref (ma 42), .ref (ma 43), .ref (ma 44), .ref (ma 45), .ref (ma 46), .ref (ma 47), .ref (ma 48), (fv 49), (fv 50), (fv 51), (fv 52), (fv 53), (fv 54), (fv 55), (fv 56), (fv 57), (fv 58), .ref (ma 59), .ref (ma 60), (fv 61), (fv 62), .int (nI st), .int (nI dp), .int 0, .int rv, .ref (ma 67), .ref (ma 68), .ref (ma 69), .int md, (fv 71), .int (nI se), .ref (ma 73)]))]) hD hS hA [0] rfl
    refine va_calli (va_runV (As := []) (rest := []) ⟨hx, hb, hml, hown, hT⟩ (d_steps l D cy s.heap.size hm ma fv kf af nf tm mkf mnf mbf ttf kn nn se tt bb ss nm st dp rv cd md hf hs) (cwV 0 hT (gTBV t_2181 t_2183 t_123 t_153 t_2184) rfl rfl rfl (by decide +kernel) ⟨Nat.le_add_left 1 k, Nat.le_trans (m := 40) (Nat.le_of_ble_eq_true rfl) (by show 40 ≤ 40 * (k + 1); omega)⟩) ⟨fun a U g mk q => by obtain ⟨q0, q1, qP, qK, qD⟩ := q; exact ⟨q0, q1, qP, va_K.moved (u := U) (U := U.calling g mk a) (Vm.Alike.refl U.vm) qK, qD⟩, va_recv hK hPc (ci := 12) (q0 := 0) rfl rfl, fun U hU hW => ⟨rfl, by rw [hU], by rw [hU]; exact hPc, va_K.moved hW.alike hK, hDc.weaken (fun _ _ _ _ => trivial)⟩⟩ rfl rfl hl.1 rfl (lv_room (Nat.le_of_ble_eq_true rfl)) dX12_runBody_12 ⟨Nat.le_of_ble_eq_true rfl, Nat.le_of_ble_eq_true rfl⟩) hS (fun q _ h => hFc q h) hFc (fun r3 u t H1 locs ht hvm w4 hB hz1 hk1 hS => ?_)
    obtain ⟨hP1, hD1⟩ := hB
    rw [ht] at hP1
    obtain ⟨hP, hD⟩ := va_join (wr := [((ma 39), .inl (cy 1, 3400, .inl kf)), ((ma 40), .inl (cy 1, 3400, .inl af)), ((ma 46), .inl (cy 2, 3400, .inr (.inl nf))), ((ma 23), .inl (cy 1, 16, .inl tm)), ((ma 24), .inl (cy 1, 128, .inl mkf)), ((ma 25), .inl (cy 2, 128, .inr (.inl mnf))), ((ma 29), .inl (cy 1, 128, .inl mbf)), ((ma 68), .inl (cy 1, 210, .inl ttf))]) (w1 := [(hm, .inr (12, [.int cd, .ref (ma 1), (fv 2), (fv 3), .ref (ma 4), (fv 5), (fv 6), (fv 7), (fv 8), (fv 9), (fv 10), (fv 11), (fv 12), (fv 13), (fv 14), .int hf, (fv 16), .ref (ma 17), .ref (ma 18), .ref (ma 19), .ref (ma 20), .ref (ma 21), .ref (ma 22), .ref (ma 23), .ref (ma 24), .ref (ma 25), .ref (ma 26), .ref (ma 27), .ref (ma 28), .ref (ma 29), .ref (ma 30), .ref (ma 31), .ref (ma 32), .ref (ma 33), .ref (ma 34), .ref (ma 35), .ref (ma 36), .ref (ma 37), .ref (ma 38), .ref (ma 39), .ref (ma 40), .ref (ma 41), .ref (ma 42), .ref (ma 43), .ref (ma 44), .ref (ma 45), .ref (ma 46), .ref (ma 47), .ref (ma 48), (fv 49), (fv 50), (fv 51), (fv 52), (fv 53), (fv 54), (fv 55), (fv 56), (fv 57), (fv 58), .ref (ma 59), .ref (ma 60), (fv 61), (fv 62), .int (nI (st + 1)), .int (nI dp), .int 0, .int rv, .ref (ma 67), .ref (ma 68), .ref (ma 69), .int md, (fv 71), .int (nI se), .ref (ma 73)]))]) hP hD [0] [1, 2, 3, 4, 5, 6, 7, 8] rfl rfl (by decide) (by decide) hk1 hFc hP1 hD1
    generalize H1 = H at hP hS ⊢
    have hP : va_P D vwCl [((ma 39), .inl (cy 1, 3400, .inl kf)), ((ma 40), .inl (cy 1, 3400, .inl af)), ((ma 46), .inl (cy 2, 3400, .inr (.inl nf))), ((ma 23), .inl (cy 1, 16, .inl tm)), ((ma 24), .inl (cy 1, 128, .inl mkf)), ((ma 25), .inl (cy 2, 128, .inr (.inl mnf))), ((ma 29), .inl (cy 1, 128, .inl mbf)), ((ma 68), .inl (cy 1, 210, .inl ttf)), (hm, .inr (12, [.int cd, .ref (ma 1), (fv 2), (fv 3), .ref (ma 4), (fv 5), (fv 6), (fv 7), (fv 8), (fv 9), (fv 10), (fv 11), (fv 12), (fv 13), (fv 14), .int hf, (fv 16), .ref (ma 17), .ref (ma 18), .ref (ma 19), .ref (ma 20), .ref (ma 21), .ref (ma 22), .ref (ma 23), .ref (ma 24), .ref (ma 25), .ref (ma 26), .ref (ma 27), .ref (ma 28), .ref (ma 29), .ref (ma 30), .ref (ma 31), .ref (ma 32), .ref (ma 33), .ref (ma 34), .ref (ma 35), .ref (ma 36), .ref (ma 37), .ref (ma 38), .ref (ma 39), .ref (ma 40), .ref (ma 41), .ref (ma 42), .ref (ma 43), .ref (ma 44), .ref (ma 45), .ref (ma 46), .ref (ma 47), .ref (ma 48), (fv 49), (fv 50), (fv 51), (fv 52), (fv 53), (fv 54), (fv 55), (fv 56), (fv 57), (fv 58), .ref (ma 59), .ref (ma 60), (fv 61), (fv 62), .int (nI (st + 1)), .int (nI dp), .int 0, .int rv, .ref (ma 67), .ref (ma 68), .ref (ma 69), .int md, (fv 71), .int (nI se), .ref (ma 73)]))] H := hP
    have hD : va_D A [((ma 39), .inl (cy 1, 3400, .inl kf)), ((ma 40), .inl (cy 1, 3400, .inl af)), ((ma 46), .inl (cy 2, 3400, .inr (.inl nf))), ((ma 23), .inl (cy 1, 16, .inl tm)), ((ma 24), .inl (cy 1, 128, .inl mkf)), ((ma 25), .inl (cy 2, 128, .inr (.inl mnf))), ((ma 29), .inl (cy 1, 128, .inl mbf)), ((ma 68), .inl (cy 1, 210, .inl ttf)), (hm, .inr (12, [.int cd, .ref (ma 1), (fv 2), (fv 3), .ref (ma 4), (fv 5), (fv 6), (fv 7), (fv 8), (fv 9), (fv 10), (fv 11), (fv 12), (fv 13), (fv 14), .int hf, (fv 16), .ref (ma 17), .ref (ma 18), .ref (ma 19), .ref (ma 20), .ref (ma 21), .ref (ma 22), .ref (ma 23), .ref (ma 24), .ref (ma 25), .ref (ma 26), .ref (ma 27), .ref (ma 28), .ref (ma 29), .ref (ma 30), .ref (ma 31), .ref (ma 32), .ref (ma 33), .ref (ma 34), .ref (ma 35), .ref (ma 36), .ref (ma 37), .ref (ma 38), .ref (ma 39), .ref (ma 40), .ref (ma 41), .ref (ma 42), .ref (ma 43), .ref (ma 44), .ref (ma 45), .ref (ma 46), .ref (ma 47), .ref (ma 48), (fv 49), (fv 50), (fv 51), (fv 52), (fv 53), (fv 54), (fv 55), (fv 56), (fv 57), (fv 58), .ref (ma 59), .ref (ma 60), (fv 61), (fv 62), .int (nI (st + 1)), .int (nI dp), .int 0, .int rv, .ref (ma 67), .ref (ma 68), .ref (ma 69), .int md, (fv 71), .int (nI se), .ref (ma 73)]))] := hD
    obtain rfl : r3 = 1 := w4
    refine lv_if_ne (tgt := 20) hx hb dX12_runBody_15 (by decide) (fun _ => ?_) (fun c9 => absurd c9 (by decide))
    refine lv_aload_n hx hb dX12_runBody_20 rfl (lv_at hl 1 rfl) ?_
    refine lv_iload_n hx hb dX12_runBody_21 rfl (lv_at hl 0 rfl) ?_
    refine lv_iload_n hx hb dX12_runBody_22 rfl (lv_at hl 3 rfl) ?_
    have hPc := hP.sub (ws' := [(hm, .inr (12, [.int cd, .ref (ma 1), (fv 2), (fv 3), .ref (ma 4), (fv 5), (fv 6), (fv 7), (fv 8), (fv 9), (fv 10), (fv 11), (fv 12), (fv 13), (fv 14), .int hf, (fv 16), .ref (ma 17), .ref (ma 18), .ref (ma 19), .ref (ma 20), .ref (ma 21), .ref (ma 22), .ref (ma 23), .ref (ma 24), .ref (ma 25), .ref (ma 26), .ref (ma 27), .ref (ma 28), .ref (ma 29), .ref (ma 30), .ref (ma 31), .ref (ma 32), .ref (ma 33), .ref (ma 34), .ref (ma 35), .ref (ma 36), .ref (ma 37), .ref (ma 38), .ref (ma 39), .ref (ma 40), .ref (ma 41), .ref (ma 42), .ref (ma 43), .ref (ma 44), .ref (ma 45), .ref (ma 46), .ref (ma 47), .ref (ma 48), (fv 49), (fv 50), (fv 51), (fv 52), (fv 53), (fv 54), (fv 55), (fv 56), (fv 57), (fv 58), .ref (ma 59), .ref (ma 60), (fv 61), (fv 62), .int (nI (st + 1)), .int (nI dp), .int 0, .int rv, .ref (ma 67), .ref (ma 68), .ref (ma 69), .int md, (fv 71), .int (nI se), .ref (ma 73)])), ((ma 39), .inl (cy 1, 3400, .inl kf)), ((ma 40), .inl (cy 1, 3400, .inl af)), ((ma 46), .inl (cy 2, 3400, .inr (.inl nf))), ((ma 23), .inl (cy 1, 16, .inl tm)), ((ma 24), .inl (cy 1, 128, .inl mkf)), ((ma 25), .inl (cy 2, 128, .inr (.inl mnf))), ((ma 29), .inl (cy 1, 128, .inl mbf)), ((ma 68), .inl (cy 1, 210, .inl ttf))]) [8, 0, 1, 2, 3, 4, 5, 6, 7] rfl
    have hDc := hD.sub (ws' := [(hm, .inr (12, [.int cd, .ref (ma 1), (fv 2), (fv 3), .ref (ma 4), (fv 5), (fv 6), (fv 7), (fv 8), (fv 9), (fv 10), (fv 11), (fv 12), (fv 13), (fv 14), .int hf, (fv 16), .ref (ma 17), .ref (ma 18), .ref (ma 19), .ref (ma 20), .ref (ma 21), .ref (ma 22), .ref (ma 23), .ref (ma 24), .ref (ma 25), .ref (ma 26), .ref (ma 27), .ref (ma 28), .ref (ma 29), .ref (ma 30), .ref (ma 31), .ref (ma 32), .ref (ma 33), .ref (ma 34), .ref (ma 35), .ref (ma 36), .ref (ma 37), .ref (ma 38), .ref (ma 39), .ref (ma 40), .ref (ma 41), .ref (ma 42), .ref (ma 43), .ref (ma 44), .ref (ma 45), .ref (ma 46), .ref (ma 47), .ref (ma 48), (fv 49), (fv 50), (fv 51), (fv 52), (fv 53), (fv 54), (fv 55), (fv 56), (fv 57), (fv 58), .ref (ma 59), .ref (ma 60), (fv 61), (fv 62), .int (nI (st + 1)), .int (nI dp), .int 0, .int rv, .ref (ma 67), .ref (ma 68), .ref (ma 69), .int md, (fv 71), .int (nI se), .ref (ma 73)])), ((ma 39), .inl (cy 1, 3400, .inl kf)), ((ma 40), .inl (cy 1, 3400, .inl af)), ((ma 46), .inl (cy 2, 3400, .inr (.inl nf))), ((ma 23), .inl (cy 1, 16, .inl tm)), ((ma 24), .inl (cy 1, 128, .inl mkf)), ((ma 25), .inl (cy 2, 128, .inr (.inl mnf))), ((ma 29), .inl (cy 1, 128, .inl mbf)), ((ma 68), .inl (cy 1, 210, .inl ttf))]) [8, 0, 1, 2, 3, 4, 5, 6, 7] (by decide) rfl
    exact va_dieV  (As := [.int (nI ms), .int fr]) (rest := []) ⟨hx, hb, hml, hown, hT⟩ (fun k h9 => hN k h9 H.size) (cwV 2 hT (gTBV t_2205 t_2207 t_129 t_153 t_2208) rfl rfl rfl (by decide +kernel) ⟨by decide, by decide⟩) ⟨fun a U g mk q => by obtain ⟨q0, q1, qP, qK, qD⟩ := q; exact ⟨q0, q1, qP, va_K.moved (u := U) (U := U.calling g mk a) (Vm.Alike.refl U.vm) qK, qD⟩, va_recv hK hP (ci := 12) (q0 := 8) rfl rfl, fun U hU hW => ⟨rfl, by rw [hU], by rw [hU]; exact hPc, va_K.moved hW.alike hK, hDc.weaken (fun _ _ _ _ => trivial)⟩⟩ hex hmc hlocks htg rfl rfl hl.1 rfl (lv_room (Nat.le_of_ble_eq_true rfl)) dX12_runBody_23 rfl rfl (Nat.le_of_ble_eq_true rfl) (Nat.le_of_ble_eq_true rfl)

set_option maxHeartbeats 4000000 in
set_option maxRecDepth 100000 in
theorem e_lead (l : Launch) (D : va_G) (cy : Nat → ClassId) (sz : Nat) (hm : Nat) (ma : Nat → Nat) (fv : Nat → Value) (kf : Nat → Int32) (af : Nat → Int32) (nf : Nat → Int64) (tm : Nat → Int32) (mkf : Nat → Int32) (mnf : Nat → Int64) (mbf : Nat → Int32) (ttf : Nat → Int32) (kn : Nat → Nat) (nn : Nat) (se : Nat) (tt : Nat) (bb : Nat) (ss : Nat) (nm : Int64) (st : Nat) (dp : Nat) (rv : Int32) (cd : Int32) (md : Int32) (hf : Int32) (mb : Nat) (ms : Nat) (mx : Nat) (ym : Nat → Int32) (mpf : Nat → Int32) (tsf : Nat → Int32) (tuf : Nat → Int32) (mtf : Nat → Int32) (mlf : Nat → Int32) (ccf : Nat → Int32) (prf : Nat → Int32) (d : Nat) (hk : Mk kf af nf tm mkf mbf ym mpf tuf mtf mlf nm mb ms mx) (hN : ∀ k, d = k + 1 → ∀ (sz : Nat), Dies l yX12_runBody (.code yX12_runBody cX12_runBody 5 (some .int) :: TB) k (va_Pc [.ref hm, .int (nI mb), .int (nI 1)] (fun U => U.heap.size = sz ∧ va_P D vwCl [(hm, .inr (12, [.int cd, .ref (ma 1), (fv 2), (fv 3), .ref (ma 4), (fv 5), (fv 6), (fv 7), (fv 8), (fv 9), (fv 10), (fv 11), (fv 12), (fv 13), (fv 14), .int 1, (fv 16), .ref (ma 17), .ref (ma 18), .ref (ma 19), .ref (ma 20), .ref (ma 21), .ref (ma 22), .ref (ma 23), .ref (ma 24), .ref (ma 25), .ref (ma 26), .ref (ma 27), .ref (ma 28), .ref (ma 29), .ref (ma 30), .ref (ma 31), .ref (ma 32), .ref (ma 33), .ref (ma 34), .ref (ma 35), .ref (ma 36), .ref (ma 37), .ref (ma 38), .ref (ma 39), .ref (ma 40), .ref (ma 41), .ref (ma 42), .ref (ma 43), .ref (ma 44), .ref (ma 45), .ref (ma 46), .ref (ma 47), .ref (ma 48), (fv 49), (fv 50), (fv 51), (fv 52), (fv 53), (fv 54), (fv 55), (fv 56), (fv 57), (fv 58), .ref (ma 59), .ref (ma 60), (fv 61), (fv 62), .int (nI 1), .int (nI 1), .int 0, .int rv, .ref (ma 67), .ref (ma 68), .ref (ma 69), .int 1, (fv 71), .int (nI 0), .ref (ma 73)])), ((ma 39), .inl (cy 1, 3400, .inl kf)), ((ma 40), .inl (cy 1, 3400, .inl af)), ((ma 46), .inl (cy 2, 3400, .inr (.inl nf))), ((ma 23), .inl (cy 1, 16, .inl tm)), ((ma 24), .inl (cy 1, 128, .inl mkf)), ((ma 25), .inl (cy 2, 128, .inr (.inl mnf))), ((ma 29), .inl (cy 1, 128, .inl mbf)), ((ma 68), .inl (cy 1, 210, .inl ttf))] U.heap ∧ va_K D vwCl (TY cy) U ∧ va_D (fun _ => True) [(hm, .inr (12, [.int cd, .ref (ma 1), (fv 2), (fv 3), .ref (ma 4), (fv 5), (fv 6), (fv 7), (fv 8), (fv 9), (fv 10), (fv 11), (fv 12), (fv 13), (fv 14), .int 1, (fv 16), .ref (ma 17), .ref (ma 18), .ref (ma 19), .ref (ma 20), .ref (ma 21), .ref (ma 22), .ref (ma 23), .ref (ma 24), .ref (ma 25), .ref (ma 26), .ref (ma 27), .ref (ma 28), .ref (ma 29), .ref (ma 30), .ref (ma 31), .ref (ma 32), .ref (ma 33), .ref (ma 34), .ref (ma 35), .ref (ma 36), .ref (ma 37), .ref (ma 38), .ref (ma 39), .ref (ma 40), .ref (ma 41), .ref (ma 42), .ref (ma 43), .ref (ma 44), .ref (ma 45), .ref (ma 46), .ref (ma 47), .ref (ma 48), (fv 49), (fv 50), (fv 51), (fv 52), (fv 53), (fv 54), (fv 55), (fv 56), (fv 57), (fv 58), .ref (ma 59), .ref (ma 60), (fv 61), (fv 62), .int (nI 1), .int (nI 1), .int 0, .int rv, .ref (ma 67), .ref (ma 68), .ref (ma 69), .int 1, (fv 71), .int (nI 0), .ref (ma 73)])), ((ma 39), .inl (cy 1, 3400, .inl kf)), ((ma 40), .inl (cy 1, 3400, .inl af)), ((ma 46), .inl (cy 2, 3400, .inr (.inl nf))), ((ma 23), .inl (cy 1, 16, .inl tm)), ((ma 24), .inl (cy 1, 128, .inl mkf)), ((ma 25), .inl (cy 2, 128, .inr (.inl mnf))), ((ma 29), .inl (cy 1, 128, .inl mbf)), ((ma 68), .inl (cy 1, 210, .inl ttf))]))) : Dies l yX12_lead (.code yX12_lead cX12_lead 11 none :: TB) d (va_Pc [.ref hm, .int 65, .int 0, .int 0, .int 0] (fun U => U.heap.size = sz ∧ va_P D vwCl [(hm, .inr (12, [.int cd, .ref (ma 1), (fv 2), (fv 3), .ref (ma 4), (fv 5), (fv 6), (fv 7), (fv 8), (fv 9), (fv 10), (fv 11), (fv 12), (fv 13), (fv 14), .int 1, (fv 16), .ref (ma 17), .ref (ma 18), .ref (ma 19), .ref (ma 20), .ref (ma 21), .ref (ma 22), .ref (ma 23), .ref (ma 24), .ref (ma 25), .ref (ma 26), .ref (ma 27), .ref (ma 28), .ref (ma 29), .ref (ma 30), .ref (ma 31), .ref (ma 32), .ref (ma 33), .ref (ma 34), .ref (ma 35), .ref (ma 36), .ref (ma 37), .ref (ma 38), .ref (ma 39), .ref (ma 40), .ref (ma 41), .ref (ma 42), .ref (ma 43), .ref (ma 44), .ref (ma 45), .ref (ma 46), .ref (ma 47), .ref (ma 48), (fv 49), (fv 50), (fv 51), (fv 52), (fv 53), (fv 54), (fv 55), (fv 56), (fv 57), (fv 58), .ref (ma 59), .ref (ma 60), (fv 61), (fv 62), .int (nI 1), .int (nI 0), .int 0, .int rv, .ref (ma 67), .ref (ma 68), .ref (ma 69), .int 1, (fv 71), .int (nI 0), .ref (ma 73)])), ((ma 39), .inl (cy 1, 3400, .inl kf)), ((ma 40), .inl (cy 1, 3400, .inl af)), ((ma 46), .inl (cy 2, 3400, .inr (.inl nf))), ((ma 23), .inl (cy 1, 16, .inl tm)), ((ma 24), .inl (cy 1, 128, .inl mkf)), ((ma 25), .inl (cy 2, 128, .inr (.inl mnf))), ((ma 29), .inl (cy 1, 128, .inl mbf)), ((ma 68), .inl (cy 1, 210, .inl ttf)), ((ma 17), .inl (cy 1, 2, .inl ym)), ((ma 30), .inl (cy 1, 128, .inl mpf)), ((ma 59), .inl (cy 1, 16, .inl tsf)), ((ma 22), .inl (cy 1, 16, .inl tuf)), ((ma 37), .inl (cy 1, 128, .inl mtf)), ((ma 33), .inl (cy 1, 128, .inl mlf)), ((ma 69), .inl (cy 1, 13440, .inl ccf)), ((ma 67), .inl (cy 1, 78, .inl prf))] U.heap ∧ va_K D vwCl (TY cy) U ∧ va_D (fun _ => True) [(hm, .inr (12, [.int cd, .ref (ma 1), (fv 2), (fv 3), .ref (ma 4), (fv 5), (fv 6), (fv 7), (fv 8), (fv 9), (fv 10), (fv 11), (fv 12), (fv 13), (fv 14), .int 1, (fv 16), .ref (ma 17), .ref (ma 18), .ref (ma 19), .ref (ma 20), .ref (ma 21), .ref (ma 22), .ref (ma 23), .ref (ma 24), .ref (ma 25), .ref (ma 26), .ref (ma 27), .ref (ma 28), .ref (ma 29), .ref (ma 30), .ref (ma 31), .ref (ma 32), .ref (ma 33), .ref (ma 34), .ref (ma 35), .ref (ma 36), .ref (ma 37), .ref (ma 38), .ref (ma 39), .ref (ma 40), .ref (ma 41), .ref (ma 42), .ref (ma 43), .ref (ma 44), .ref (ma 45), .ref (ma 46), .ref (ma 47), .ref (ma 48), (fv 49), (fv 50), (fv 51), (fv 52), (fv 53), (fv 54), (fv 55), (fv 56), (fv 57), (fv 58), .ref (ma 59), .ref (ma 60), (fv 61), (fv 62), .int (nI 1), .int (nI 0), .int 0, .int rv, .ref (ma 67), .ref (ma 68), .ref (ma 69), .int 1, (fv 71), .int (nI 0), .ref (ma 73)])), ((ma 39), .inl (cy 1, 3400, .inl kf)), ((ma 40), .inl (cy 1, 3400, .inl af)), ((ma 46), .inl (cy 2, 3400, .inr (.inl nf))), ((ma 23), .inl (cy 1, 16, .inl tm)), ((ma 24), .inl (cy 1, 128, .inl mkf)), ((ma 25), .inl (cy 2, 128, .inr (.inl mnf))), ((ma 29), .inl (cy 1, 128, .inl mbf)), ((ma 68), .inl (cy 1, 210, .inl ttf)), ((ma 17), .inl (cy 1, 2, .inl ym)), ((ma 30), .inl (cy 1, 128, .inl mpf)), ((ma 59), .inl (cy 1, 16, .inl tsf)), ((ma 22), .inl (cy 1, 16, .inl tuf)), ((ma 37), .inl (cy 1, 128, .inl mtf)), ((ma 33), .inl (cy 1, 128, .inl mlf)), ((ma 69), .inl (cy 1, 13440, .inl ccf)), ((ma 67), .inl (cy 1, 78, .inl prf))])) := by
  refine Dies.ofW (cc := cX12_lead) (maxL := 11) (ret := none) (by decide) rfl ?_
  intro p e s m args below meth c s₁ B hml hex hmc htg hv
  obtain ⟨rfl, hsz, hP, hK, hD0⟩ := hv
  have hx := B.exec
  have hb := B.bytes
  have hr := B.returns
  have hts := atoms_spec (ws := .code yX12_lead cX12_lead 11 none :: TB) B.pre
  have hT : ∀ w ∈ TB, w.before _ s = true := fun w h => hts w (List.mem_cons_of_mem _ h)
  have hown : s.vm.findClass "MakerStartsModel" = some m.cls := findClass_of_methodNamed B.named
  have hlocks := B.notSynchronized
  subst hsz
  have hD := hD0.self (sz := s.heap.size)
  generalize hAe : va_A [(hm, .inr (12, [.int cd, .ref (ma 1), (fv 2), (fv 3), .ref (ma 4), (fv 5), (fv 6), (fv 7), (fv 8), (fv 9), (fv 10), (fv 11), (fv 12), (fv 13), (fv 14), .int 1, (fv 16), .ref (ma 17), .ref (ma 18), .ref (ma 19), .ref (ma 20), .ref (ma 21), .ref (ma 22), .ref (ma 23), .ref (ma 24), .ref (ma 25), .ref (ma 26), .ref (ma 27), .ref (ma 28), .ref (ma 29), .ref (ma 30), .ref (ma 31), .ref (ma 32), .ref (ma 33), .ref (ma 34), .ref (ma 35), .ref (ma 36), .ref (ma 37), .ref (ma 38), .ref (ma 39), .ref (ma 40), .ref (ma 41), .ref (ma 42), .ref (ma 43), .ref (ma 44), .ref (ma 45), .ref (ma 46), .ref (ma 47), .ref (ma 48), (fv 49), (fv 50), (fv 51), (fv 52), (fv 53), (fv 54), (fv 55), (fv 56), (fv 57), (fv 58), .ref (ma 59), .ref (ma 60), (fv 61), (fv 62), .int (nI 1), .int (nI 0), .int 0, .int rv, .ref (ma 67), .ref (ma 68), .ref (ma 69), .int 1, (fv 71), .int (nI 0), .ref (ma 73)])), ((ma 39), .inl (cy 1, 3400, .inl kf)), ((ma 40), .inl (cy 1, 3400, .inl af)), ((ma 46), .inl (cy 2, 3400, .inr (.inl nf))), ((ma 23), .inl (cy 1, 16, .inl tm)), ((ma 24), .inl (cy 1, 128, .inl mkf)), ((ma 25), .inl (cy 2, 128, .inr (.inl mnf))), ((ma 29), .inl (cy 1, 128, .inl mbf)), ((ma 68), .inl (cy 1, 210, .inl ttf)), ((ma 17), .inl (cy 1, 2, .inl ym)), ((ma 30), .inl (cy 1, 128, .inl mpf)), ((ma 59), .inl (cy 1, 16, .inl tsf)), ((ma 22), .inl (cy 1, 16, .inl tuf)), ((ma 37), .inl (cy 1, 128, .inl mtf)), ((ma 33), .inl (cy 1, 128, .inl mlf)), ((ma 69), .inl (cy 1, 13440, .inl ccf)), ((ma 67), .inl (cy 1, 78, .inl prf))] s.heap.size = A at hD  ⊢
  have hA : ∀ q : Nat, s.heap.size ≤ q → A q := fun q h => by rw [← hAe]; exact Or.inr h
  have hS : va_S A s.heap s.heap [] := va_S.rf
  have hP : va_P D vwCl [(hm, .inr (12, [.int cd, .ref (ma 1), (fv 2), (fv 3), .ref (ma 4), (fv 5), (fv 6), (fv 7), (fv 8), (fv 9), (fv 10), (fv 11), (fv 12), (fv 13), (fv 14), .int 1, (fv 16), .ref (ma 17), .ref (ma 18), .ref (ma 19), .ref (ma 20), .ref (ma 21), .ref (ma 22), .ref (ma 23), .ref (ma 24), .ref (ma 25), .ref (ma 26), .ref (ma 27), .ref (ma 28), .ref (ma 29), .ref (ma 30), .ref (ma 31), .ref (ma 32), .ref (ma 33), .ref (ma 34), .ref (ma 35), .ref (ma 36), .ref (ma 37), .ref (ma 38), .ref (ma 39), .ref (ma 40), .ref (ma 41), .ref (ma 42), .ref (ma 43), .ref (ma 44), .ref (ma 45), .ref (ma 46), .ref (ma 47), .ref (ma 48), (fv 49), (fv 50), (fv 51), (fv 52), (fv 53), (fv 54), (fv 55), (fv 56), (fv 57), (fv 58), .ref (ma 59), .ref (ma 60), (fv 61), (fv 62), .int (nI 1), .int (nI 0), .int 0, .int rv, .ref (ma 67), .ref (ma 68), .ref (ma 69), .int 1, (fv 71), .int (nI 0), .ref (ma 73)])), ((ma 39), .inl (cy 1, 3400, .inl kf)), ((ma 40), .inl (cy 1, 3400, .inl af)), ((ma 46), .inl (cy 2, 3400, .inr (.inl nf))), ((ma 23), .inl (cy 1, 16, .inl tm)), ((ma 24), .inl (cy 1, 128, .inl mkf)), ((ma 25), .inl (cy 2, 128, .inr (.inl mnf))), ((ma 29), .inl (cy 1, 128, .inl mbf)), ((ma 68), .inl (cy 1, 210, .inl ttf)), ((ma 17), .inl (cy 1, 2, .inl ym)), ((ma 30), .inl (cy 1, 128, .inl mpf)), ((ma 59), .inl (cy 1, 16, .inl tsf)), ((ma 22), .inl (cy 1, 16, .inl tuf)), ((ma 37), .inl (cy 1, 128, .inl mtf)), ((ma 33), .inl (cy 1, 128, .inl mlf)), ((ma 69), .inl (cy 1, 13440, .inl ccf)), ((ma 67), .inl (cy 1, 78, .inl prf))] s.heap := hP
  have hl := lv_entry ([.ref hm, .int 65, .int 0, .int 0, .int 0]) (n := 11) (Nat.le_of_ble_eq_true rfl)
  rw [lg_entry_eq]
  generalize (lg_sl ([.ref hm, .int 65, .int 0, .int 0, .int 0]) ++ List.replicate (11 - (lg_sl ([.ref hm, .int 65, .int 0, .int 0, .int 0])).length) Slot.unset).toArray = ls at hl ⊢
  have hl : lv_has ls 11 [(0, .ref hm), (1, .int 65), (2, .int 0), (3, .int 0), (4, .int 0)] := hl
  have hk0 := hk
  obtain ⟨kym, ktm, kk0, kk1, kmp, ktu, kmt, kml, kmb, kbb, kab, kss0, kss, kks, kas, kxx, kkx, knx⟩ := hk
  refine lv_aload_n hx hb dX12_lead_0 rfl (lv_at hl 0 rfl) ?_
  refine va_get (D := D) (ci := 12) (v := .int (nI 0)) (C := RX12) (T := TX12) (N := 74) hx hb hT i_TX12 hown hK hP 0 rfl rfl 64 (by decide) (hT _ t_1779) (fun _ h9 => h9) rfl dX12_lead_1 ?_
  refine lv_bipush (v := 24) hx hb dX12_lead_4 (by decide) ?_
  refine lv_icmp_ne (tgt := 16) hx hb dX12_lead_6 (by decide) (fun _ => ?_) (fun c9 => absurd c9 (by decide))
  refine lv_aload_n hx hb dX12_lead_16 rfl (lv_at hl 0 rfl) ?_
  refine lv_dup hx hb dX12_lead_17 rfl ?_
  refine va_get (D := D) (ci := 12) (v := .int (nI 0)) (C := RX12) (T := TX12) (N := 74) hx hb hT i_TX12 hown hK hP 0 rfl rfl 64 (by decide) (hT _ t_1779) (fun _ h9 => h9) rfl dX12_lead_18 ?_
  refine lv_iconst (v := 1) hx hb dX12_lead_21 (by decide) ?_
  refine lv_iadd hx hb dX12_lead_22 ?_
  refine lv_topi (fun z1 e2 => ?_)
  obtain rfl : z1 = 1 := e2.trans (by first | decide | rfl)
  refine va_put (D := D) (ci := 12) (v := .int 1) (ty := .int) (C := RX12) (T := TX12) (N := 74) hx hb hT i_TX12 tyX12 tyX12_ok nmX12 hown hK hP hD hS 0 rfl rfl 64 (by decide) (hT _ t_1779) (fun _ h9 => h9) rfl (by decide +kernel) rfl rfl (Nat.le_of_ble_eq_true rfl) dX12_lead_23 (fun H locs hP hD hS => ?_)
  have hP : va_P D vwCl [(hm, .inr (12, [.int cd, .ref (ma 1), (fv 2), (fv 3), .ref (ma 4), (fv 5), (fv 6), (fv 7), (fv 8), (fv 9), (fv 10), (fv 11), (fv 12), (fv 13), (fv 14), .int 1, (fv 16), .ref (ma 17), .ref (ma 18), .ref (ma 19), .ref (ma 20), .ref (ma 21), .ref (ma 22), .ref (ma 23), .ref (ma 24), .ref (ma 25), .ref (ma 26), .ref (ma 27), .ref (ma 28), .ref (ma 29), .ref (ma 30), .ref (ma 31), .ref (ma 32), .ref (ma 33), .ref (ma 34), .ref (ma 35), .ref (ma 36), .ref (ma 37), .ref (ma 38), .ref (ma 39), .ref (ma 40), .ref (ma 41), .ref (ma 42), .ref (ma 43), .ref (ma 44), .ref (ma 45), .ref (ma 46), .ref (ma 47), .ref (ma 48), (fv 49), (fv 50), (fv 51), (fv 52), (fv 53), (fv 54), (fv 55), (fv 56), (fv 57), (fv 58), .ref (ma 59), .ref (ma 60), (fv 61), (fv 62), .int (nI 1), .int 1, .int 0, .int rv, .ref (ma 67), .ref (ma 68), .ref (ma 69), .int 1, (fv 71), .int (nI 0), .ref (ma 73)])), ((ma 39), .inl (cy 1, 3400, .inl kf)), ((ma 40), .inl (cy 1, 3400, .inl af)), ((ma 46), .inl (cy 2, 3400, .inr (.inl nf))), ((ma 23), .inl (cy 1, 16, .inl tm)), ((ma 24), .inl (cy 1, 128, .inl mkf)), ((ma 25), .inl (cy 2, 128, .inr (.inl mnf))), ((ma 29), .inl (cy 1, 128, .inl mbf)), ((ma 68), .inl (cy 1, 210, .inl ttf)), ((ma 17), .inl (cy 1, 2, .inl ym)), ((ma 30), .inl (cy 1, 128, .inl mpf)), ((ma 59), .inl (cy 1, 16, .inl tsf)), ((ma 22), .inl (cy 1, 16, .inl tuf)), ((ma 37), .inl (cy 1, 128, .inl mtf)), ((ma 33), .inl (cy 1, 128, .inl mlf)), ((ma 69), .inl (cy 1, 13440, .inl ccf)), ((ma 67), .inl (cy 1, 78, .inl prf))] H := hP
  have hD : va_D A [(hm, .inr (12, [.int cd, .ref (ma 1), (fv 2), (fv 3), .ref (ma 4), (fv 5), (fv 6), (fv 7), (fv 8), (fv 9), (fv 10), (fv 11), (fv 12), (fv 13), (fv 14), .int 1, (fv 16), .ref (ma 17), .ref (ma 18), .ref (ma 19), .ref (ma 20), .ref (ma 21), .ref (ma 22), .ref (ma 23), .ref (ma 24), .ref (ma 25), .ref (ma 26), .ref (ma 27), .ref (ma 28), .ref (ma 29), .ref (ma 30), .ref (ma 31), .ref (ma 32), .ref (ma 33), .ref (ma 34), .ref (ma 35), .ref (ma 36), .ref (ma 37), .ref (ma 38), .ref (ma 39), .ref (ma 40), .ref (ma 41), .ref (ma 42), .ref (ma 43), .ref (ma 44), .ref (ma 45), .ref (ma 46), .ref (ma 47), .ref (ma 48), (fv 49), (fv 50), (fv 51), (fv 52), (fv 53), (fv 54), (fv 55), (fv 56), (fv 57), (fv 58), .ref (ma 59), .ref (ma 60), (fv 61), (fv 62), .int (nI 1), .int 1, .int 0, .int rv, .ref (ma 67), .ref (ma 68), .ref (ma 69), .int 1, (fv 71), .int (nI 0), .ref (ma 73)])), ((ma 39), .inl (cy 1, 3400, .inl kf)), ((ma 40), .inl (cy 1, 3400, .inl af)), ((ma 46), .inl (cy 2, 3400, .inr (.inl nf))), ((ma 23), .inl (cy 1, 16, .inl tm)), ((ma 24), .inl (cy 1, 128, .inl mkf)), ((ma 25), .inl (cy 2, 128, .inr (.inl mnf))), ((ma 29), .inl (cy 1, 128, .inl mbf)), ((ma 68), .inl (cy 1, 210, .inl ttf)), ((ma 17), .inl (cy 1, 2, .inl ym)), ((ma 30), .inl (cy 1, 128, .inl mpf)), ((ma 59), .inl (cy 1, 16, .inl tsf)), ((ma 22), .inl (cy 1, 16, .inl tuf)), ((ma 37), .inl (cy 1, 128, .inl mtf)), ((ma 33), .inl (cy 1, 128, .inl mlf)), ((ma 69), .inl (cy 1, 13440, .inl ccf)), ((ma 67), .inl (cy 1, 78, .inl prf))] := hD
  refine lv_aload_n hx hb dX12_lead_26 rfl (lv_at hl 0 rfl) ?_
  refine va_get (D := D) (ci := 12) (v := .int 1) (C := RX12) (T := TX12) (N := 74) hx hb hT i_TX12 hown hK hP 0 rfl rfl 64 (by decide) (hT _ t_1779) (fun _ h9 => h9) rfl dX12_lead_27 ?_
  refine lv_istore (lv' := [(5, .int 1), (0, .ref hm), (1, .int 65), (2, .int 0), (3, .int 0), (4, .int 0)]) hx hb dX12_lead_30 hl (by decide) rfl (fun ls hl => ?_)
  refine lv_aload_n hx hb dX12_lead_32 rfl (lv_at hl 1 rfl) ?_
  refine va_get (D := D) (ci := 12) (v := .ref (ma 67)) (C := RX12) (T := TX12) (N := 74) hx hb hT i_TX12 hown hK hP 0 rfl rfl 67 (by decide) (hT _ t_1782) (fun _ h9 => h9) rfl dX12_lead_33 ?_
  refine lv_iconst (v := 3) hx hb dX12_lead_36 (by decide) ?_
  refine lv_iload hx hb dX12_lead_37 (lv_at hl 0 rfl) ?_
  refine lv_imul hx hb dX12_lead_39 ?_
  refine lv_topi (fun z3 e4 => ?_)
  obtain rfl : z3 = 3 := e4.trans (by first | decide | rfl)
  refine lv_iload_n hx hb dX12_lead_40 rfl (lv_at hl 3 rfl) ?_
  refine va_iast hx hb hK hP hD hS 16 1 rfl rfl (vp_in_iff.mpr (by decide)) dX12_lead_41 (fun H locs hP hD hS => ?_)
  have hP : va_P D vwCl [(hm, .inr (12, [.int cd, .ref (ma 1), (fv 2), (fv 3), .ref (ma 4), (fv 5), (fv 6), (fv 7), (fv 8), (fv 9), (fv 10), (fv 11), (fv 12), (fv 13), (fv 14), .int 1, (fv 16), .ref (ma 17), .ref (ma 18), .ref (ma 19), .ref (ma 20), .ref (ma 21), .ref (ma 22), .ref (ma 23), .ref (ma 24), .ref (ma 25), .ref (ma 26), .ref (ma 27), .ref (ma 28), .ref (ma 29), .ref (ma 30), .ref (ma 31), .ref (ma 32), .ref (ma 33), .ref (ma 34), .ref (ma 35), .ref (ma 36), .ref (ma 37), .ref (ma 38), .ref (ma 39), .ref (ma 40), .ref (ma 41), .ref (ma 42), .ref (ma 43), .ref (ma 44), .ref (ma 45), .ref (ma 46), .ref (ma 47), .ref (ma 48), (fv 49), (fv 50), (fv 51), (fv 52), (fv 53), (fv 54), (fv 55), (fv 56), (fv 57), (fv 58), .ref (ma 59), .ref (ma 60), (fv 61), (fv 62), .int (nI 1), .int 1, .int 0, .int rv, .ref (ma 67), .ref (ma 68), .ref (ma 69), .int 1, (fv 71), .int (nI 0), .ref (ma 73)])), ((ma 39), .inl (cy 1, 3400, .inl kf)), ((ma 40), .inl (cy 1, 3400, .inl af)), ((ma 46), .inl (cy 2, 3400, .inr (.inl nf))), ((ma 23), .inl (cy 1, 16, .inl tm)), ((ma 24), .inl (cy 1, 128, .inl mkf)), ((ma 25), .inl (cy 2, 128, .inr (.inl mnf))), ((ma 29), .inl (cy 1, 128, .inl mbf)), ((ma 68), .inl (cy 1, 210, .inl ttf)), ((ma 17), .inl (cy 1, 2, .inl ym)), ((ma 30), .inl (cy 1, 128, .inl mpf)), ((ma 59), .inl (cy 1, 16, .inl tsf)), ((ma 22), .inl (cy 1, 16, .inl tuf)), ((ma 37), .inl (cy 1, 128, .inl mtf)), ((ma 33), .inl (cy 1, 128, .inl mlf)), ((ma 69), .inl (cy 1, 13440, .inl ccf)), ((ma 67), .inl (cy 1, 78, .inl (upd prf (3 : Int32).toNatClampNeg 0)))] H := hP
  have hD : va_D A [(hm, .inr (12, [.int cd, .ref (ma 1), (fv 2), (fv 3), .ref (ma 4), (fv 5), (fv 6), (fv 7), (fv 8), (fv 9), (fv 10), (fv 11), (fv 12), (fv 13), (fv 14), .int 1, (fv 16), .ref (ma 17), .ref (ma 18), .ref (ma 19), .ref (ma 20), .ref (ma 21), .ref (ma 22), .ref (ma 23), .ref (ma 24), .ref (ma 25), .ref (ma 26), .ref (ma 27), .ref (ma 28), .ref (ma 29), .ref (ma 30), .ref (ma 31), .ref (ma 32), .ref (ma 33), .ref (ma 34), .ref (ma 35), .ref (ma 36), .ref (ma 37), .ref (ma 38), .ref (ma 39), .ref (ma 40), .ref (ma 41), .ref (ma 42), .ref (ma 43), .ref (ma 44), .ref (ma 45), .ref (ma 46), .ref (ma 47), .ref (ma 48), (fv 49), (fv 50), (fv 51), (fv 52), (fv 53), (fv 54), (fv 55), (fv 56), (fv 57), (fv 58), .ref (ma 59), .ref (ma 60), (fv 61), (fv 62), .int (nI 1), .int 1, .int 0, .int rv, .ref (ma 67), .ref (ma 68), .ref (ma 69), .int 1, (fv 71), .int (nI 0), .ref (ma 73)])), ((ma 39), .inl (cy 1, 3400, .inl kf)), ((ma 40), .inl (cy 1, 3400, .inl af)), ((ma 46), .inl (cy 2, 3400, .inr (.inl nf))), ((ma 23), .inl (cy 1, 16, .inl tm)), ((ma 24), .inl (cy 1, 128, .inl mkf)), ((ma 25), .inl (cy 2, 128, .inr (.inl mnf))), ((ma 29), .inl (cy 1, 128, .inl mbf)), ((ma 68), .inl (cy 1, 210, .inl ttf)), ((ma 17), .inl (cy 1, 2, .inl ym)), ((ma 30), .inl (cy 1, 128, .inl mpf)), ((ma 59), .inl (cy 1, 16, .inl tsf)), ((ma 22), .inl (cy 1, 16, .inl tuf)), ((ma 37), .inl (cy 1, 128, .inl mtf)), ((ma 33), .inl (cy 1, 128, .inl mlf)), ((ma 69), .inl (cy 1, 13440, .inl ccf)), ((ma 67), .inl (cy 1, 78, .inl (upd prf (3 : Int32).toNatClampNeg 0)))] := hD
  generalize hff5 : (upd prf (3 : Int32).toNatClampNeg 0) = f5 at hP hD
  refine lv_aload_n hx hb dX12_lead_42 rfl (lv_at hl 1 rfl) ?_
  refine va_get (D := D) (ci := 12) (v := .ref (ma 67)) (C := RX12) (T := TX12) (N := 74) hx hb hT i_TX12 hown hK hP 0 rfl rfl 67 (by decide) (hT _ t_1782) (fun _ h9 => h9) rfl dX12_lead_43 ?_
  refine lv_iconst (v := 3) hx hb dX12_lead_46 (by decide) ?_
  refine lv_iload hx hb dX12_lead_47 (lv_at hl 0 rfl) ?_
  refine lv_imul hx hb dX12_lead_49 ?_
  refine lv_topi (fun z6 e7 => ?_)
  obtain rfl : z6 = 3 := e7.trans (by first | decide | rfl)
  refine lv_iconst (v := 1) hx hb dX12_lead_50 (by decide) ?_
  refine lv_iadd hx hb dX12_lead_51 ?_
  refine lv_topi (fun z8 e9 => ?_)
  obtain rfl : z8 = 4 := e9.trans (by first | decide | rfl)
  refine lv_iload_n hx hb dX12_lead_52 rfl (lv_at hl 4 rfl) ?_
  refine va_iast hx hb hK hP hD hS 16 1 rfl rfl (vp_in_iff.mpr (by decide)) dX12_lead_53 (fun H locs hP hD hS => ?_)
  have hP : va_P D vwCl [(hm, .inr (12, [.int cd, .ref (ma 1), (fv 2), (fv 3), .ref (ma 4), (fv 5), (fv 6), (fv 7), (fv 8), (fv 9), (fv 10), (fv 11), (fv 12), (fv 13), (fv 14), .int 1, (fv 16), .ref (ma 17), .ref (ma 18), .ref (ma 19), .ref (ma 20), .ref (ma 21), .ref (ma 22), .ref (ma 23), .ref (ma 24), .ref (ma 25), .ref (ma 26), .ref (ma 27), .ref (ma 28), .ref (ma 29), .ref (ma 30), .ref (ma 31), .ref (ma 32), .ref (ma 33), .ref (ma 34), .ref (ma 35), .ref (ma 36), .ref (ma 37), .ref (ma 38), .ref (ma 39), .ref (ma 40), .ref (ma 41), .ref (ma 42), .ref (ma 43), .ref (ma 44), .ref (ma 45), .ref (ma 46), .ref (ma 47), .ref (ma 48), (fv 49), (fv 50), (fv 51), (fv 52), (fv 53), (fv 54), (fv 55), (fv 56), (fv 57), (fv 58), .ref (ma 59), .ref (ma 60), (fv 61), (fv 62), .int (nI 1), .int 1, .int 0, .int rv, .ref (ma 67), .ref (ma 68), .ref (ma 69), .int 1, (fv 71), .int (nI 0), .ref (ma 73)])), ((ma 39), .inl (cy 1, 3400, .inl kf)), ((ma 40), .inl (cy 1, 3400, .inl af)), ((ma 46), .inl (cy 2, 3400, .inr (.inl nf))), ((ma 23), .inl (cy 1, 16, .inl tm)), ((ma 24), .inl (cy 1, 128, .inl mkf)), ((ma 25), .inl (cy 2, 128, .inr (.inl mnf))), ((ma 29), .inl (cy 1, 128, .inl mbf)), ((ma 68), .inl (cy 1, 210, .inl ttf)), ((ma 17), .inl (cy 1, 2, .inl ym)), ((ma 30), .inl (cy 1, 128, .inl mpf)), ((ma 59), .inl (cy 1, 16, .inl tsf)), ((ma 22), .inl (cy 1, 16, .inl tuf)), ((ma 37), .inl (cy 1, 128, .inl mtf)), ((ma 33), .inl (cy 1, 128, .inl mlf)), ((ma 69), .inl (cy 1, 13440, .inl ccf)), ((ma 67), .inl (cy 1, 78, .inl (upd f5 (4 : Int32).toNatClampNeg 0)))] H := hP
  have hD : va_D A [(hm, .inr (12, [.int cd, .ref (ma 1), (fv 2), (fv 3), .ref (ma 4), (fv 5), (fv 6), (fv 7), (fv 8), (fv 9), (fv 10), (fv 11), (fv 12), (fv 13), (fv 14), .int 1, (fv 16), .ref (ma 17), .ref (ma 18), .ref (ma 19), .ref (ma 20), .ref (ma 21), .ref (ma 22), .ref (ma 23), .ref (ma 24), .ref (ma 25), .ref (ma 26), .ref (ma 27), .ref (ma 28), .ref (ma 29), .ref (ma 30), .ref (ma 31), .ref (ma 32), .ref (ma 33), .ref (ma 34), .ref (ma 35), .ref (ma 36), .ref (ma 37), .ref (ma 38), .ref (ma 39), .ref (ma 40), .ref (ma 41), .ref (ma 42), .ref (ma 43), .ref (ma 44), .ref (ma 45), .ref (ma 46), .ref (ma 47), .ref (ma 48), (fv 49), (fv 50), (fv 51), (fv 52), (fv 53), (fv 54), (fv 55), (fv 56), (fv 57), (fv 58), .ref (ma 59), .ref (ma 60), (fv 61), (fv 62), .int (nI 1), .int 1, .int 0, .int rv, .ref (ma 67), .ref (ma 68), .ref (ma 69), .int 1, (fv 71), .int (nI 0), .ref (ma 73)])), ((ma 39), .inl (cy 1, 3400, .inl kf)), ((ma 40), .inl (cy 1, 3400, .inl af)), ((ma 46), .inl (cy 2, 3400, .inr (.inl nf))), ((ma 23), .inl (cy 1, 16, .inl tm)), ((ma 24), .inl (cy 1, 128, .inl mkf)), ((ma 25), .inl (cy 2, 128, .inr (.inl mnf))), ((ma 29), .inl (cy 1, 128, .inl mbf)), ((ma 68), .inl (cy 1, 210, .inl ttf)), ((ma 17), .inl (cy 1, 2, .inl ym)), ((ma 30), .inl (cy 1, 128, .inl mpf)), ((ma 59), .inl (cy 1, 16, .inl tsf)), ((ma 22), .inl (cy 1, 16, .inl tuf)), ((ma 37), .inl (cy 1, 128, .inl mtf)), ((ma 33), .inl (cy 1, 128, .inl mlf)), ((ma 69), .inl (cy 1, 13440, .inl ccf)), ((ma 67), .inl (cy 1, 78, .inl (upd f5 (4 : Int32).toNatClampNeg 0)))] := hD
  generalize hff10 : (upd f5 (4 : Int32).toNatClampNeg 0) = f10 at hP hD
  refine lv_aload_n hx hb dX12_lead_54 rfl (lv_at hl 1 rfl) ?_
  refine va_get (D := D) (ci := 12) (v := .ref (ma 67)) (C := RX12) (T := TX12) (N := 74) hx hb hT i_TX12 hown hK hP 0 rfl rfl 67 (by decide) (hT _ t_1782) (fun _ h9 => h9) rfl dX12_lead_55 ?_
  refine lv_iconst (v := 3) hx hb dX12_lead_58 (by decide) ?_
  refine lv_iload hx hb dX12_lead_59 (lv_at hl 0 rfl) ?_
  refine lv_imul hx hb dX12_lead_61 ?_
  refine lv_topi (fun z11 e12 => ?_)
  obtain rfl : z11 = 3 := e12.trans (by first | decide | rfl)
  refine lv_iconst (v := 2) hx hb dX12_lead_62 (by decide) ?_
  refine lv_iadd hx hb dX12_lead_63 ?_
  refine lv_topi (fun z13 e14 => ?_)
  obtain rfl : z13 = 5 := e14.trans (by first | decide | rfl)
  refine lv_iload hx hb dX12_lead_64 (lv_at hl 5 rfl) ?_
  refine va_iast hx hb hK hP hD hS 16 1 rfl rfl (vp_in_iff.mpr (by decide)) dX12_lead_66 (fun H locs hP hD hS => ?_)
  have hP : va_P D vwCl [(hm, .inr (12, [.int cd, .ref (ma 1), (fv 2), (fv 3), .ref (ma 4), (fv 5), (fv 6), (fv 7), (fv 8), (fv 9), (fv 10), (fv 11), (fv 12), (fv 13), (fv 14), .int 1, (fv 16), .ref (ma 17), .ref (ma 18), .ref (ma 19), .ref (ma 20), .ref (ma 21), .ref (ma 22), .ref (ma 23), .ref (ma 24), .ref (ma 25), .ref (ma 26), .ref (ma 27), .ref (ma 28), .ref (ma 29), .ref (ma 30), .ref (ma 31), .ref (ma 32), .ref (ma 33), .ref (ma 34), .ref (ma 35), .ref (ma 36), .ref (ma 37), .ref (ma 38), .ref (ma 39), .ref (ma 40), .ref (ma 41), .ref (ma 42), .ref (ma 43), .ref (ma 44), .ref (ma 45), .ref (ma 46), .ref (ma 47), .ref (ma 48), (fv 49), (fv 50), (fv 51), (fv 52), (fv 53), (fv 54), (fv 55), (fv 56), (fv 57), (fv 58), .ref (ma 59), .ref (ma 60), (fv 61), (fv 62), .int (nI 1), .int 1, .int 0, .int rv, .ref (ma 67), .ref (ma 68), .ref (ma 69), .int 1, (fv 71), .int (nI 0), .ref (ma 73)])), ((ma 39), .inl (cy 1, 3400, .inl kf)), ((ma 40), .inl (cy 1, 3400, .inl af)), ((ma 46), .inl (cy 2, 3400, .inr (.inl nf))), ((ma 23), .inl (cy 1, 16, .inl tm)), ((ma 24), .inl (cy 1, 128, .inl mkf)), ((ma 25), .inl (cy 2, 128, .inr (.inl mnf))), ((ma 29), .inl (cy 1, 128, .inl mbf)), ((ma 68), .inl (cy 1, 210, .inl ttf)), ((ma 17), .inl (cy 1, 2, .inl ym)), ((ma 30), .inl (cy 1, 128, .inl mpf)), ((ma 59), .inl (cy 1, 16, .inl tsf)), ((ma 22), .inl (cy 1, 16, .inl tuf)), ((ma 37), .inl (cy 1, 128, .inl mtf)), ((ma 33), .inl (cy 1, 128, .inl mlf)), ((ma 69), .inl (cy 1, 13440, .inl ccf)), ((ma 67), .inl (cy 1, 78, .inl (upd f10 (5 : Int32).toNatClampNeg 0)))] H := hP
  have hD : va_D A [(hm, .inr (12, [.int cd, .ref (ma 1), (fv 2), (fv 3), .ref (ma 4), (fv 5), (fv 6), (fv 7), (fv 8), (fv 9), (fv 10), (fv 11), (fv 12), (fv 13), (fv 14), .int 1, (fv 16), .ref (ma 17), .ref (ma 18), .ref (ma 19), .ref (ma 20), .ref (ma 21), .ref (ma 22), .ref (ma 23), .ref (ma 24), .ref (ma 25), .ref (ma 26), .ref (ma 27), .ref (ma 28), .ref (ma 29), .ref (ma 30), .ref (ma 31), .ref (ma 32), .ref (ma 33), .ref (ma 34), .ref (ma 35), .ref (ma 36), .ref (ma 37), .ref (ma 38), .ref (ma 39), .ref (ma 40), .ref (ma 41), .ref (ma 42), .ref (ma 43), .ref (ma 44), .ref (ma 45), .ref (ma 46), .ref (ma 47), .ref (ma 48), (fv 49), (fv 50), (fv 51), (fv 52), (fv 53), (fv 54), (fv 55), (fv 56), (fv 57), (fv 58), .ref (ma 59), .ref (ma 60), (fv 61), (fv 62), .int (nI 1), .int 1, .int 0, .int rv, .ref (ma 67), .ref (ma 68), .ref (ma 69), .int 1, (fv 71), .int (nI 0), .ref (ma 73)])), ((ma 39), .inl (cy 1, 3400, .inl kf)), ((ma 40), .inl (cy 1, 3400, .inl af)), ((ma 46), .inl (cy 2, 3400, .inr (.inl nf))), ((ma 23), .inl (cy 1, 16, .inl tm)), ((ma 24), .inl (cy 1, 128, .inl mkf)), ((ma 25), .inl (cy 2, 128, .inr (.inl mnf))), ((ma 29), .inl (cy 1, 128, .inl mbf)), ((ma 68), .inl (cy 1, 210, .inl ttf)), ((ma 17), .inl (cy 1, 2, .inl ym)), ((ma 30), .inl (cy 1, 128, .inl mpf)), ((ma 59), .inl (cy 1, 16, .inl tsf)), ((ma 22), .inl (cy 1, 16, .inl tuf)), ((ma 37), .inl (cy 1, 128, .inl mtf)), ((ma 33), .inl (cy 1, 128, .inl mlf)), ((ma 69), .inl (cy 1, 13440, .inl ccf)), ((ma 67), .inl (cy 1, 78, .inl (upd f10 (5 : Int32).toNatClampNeg 0)))] := hD
  generalize hff15 : (upd f10 (5 : Int32).toNatClampNeg 0) = f15 at hP hD
  refine lv_iload_n hx hb dX12_lead_67 rfl (lv_at hl 2 rfl) ?_
  refine lv_sipush (v := 1000) hx hb dX12_lead_68 (by decide) ?_
  refine lv_icmp_ge (tgt := 78) hx hb dX12_lead_71 (by decide) (fun c9 => absurd c9 (by decide)) (fun _ => ?_)
  refine lv_iconst (v := 1) hx hb dX12_lead_74 (by decide) ?_
  refine lv_goto (tgt := 79) hx hb dX12_lead_75 (by decide) ?_
  refine lv_istore (lv' := [(6, .int 1), (5, .int 1), (0, .ref hm), (1, .int 65), (2, .int 0), (3, .int 0), (4, .int 0)]) hx hb dX12_lead_79 hl (by decide) rfl (fun ls hl => ?_)
  refine lv_iload hx hb dX12_lead_81 (lv_at hl 0 rfl) ?_
  refine lv_if_eq (tgt := 93) hx hb dX12_lead_83 (by decide) (fun c9 => absurd c9 (by decide)) (fun _ => ?_)
  refine lv_iload_n hx hb dX12_lead_86 rfl (lv_at hl 3 rfl) ?_
  refine lv_bipush (v := 8) hx hb dX12_lead_87 (by decide) ?_
  refine lv_idiv hx hb dX12_lead_89 (by decide) ?_
  refine lv_topi (fun z16 e17 => ?_)
  obtain rfl : z16 = 8 := e17.trans (by first | decide | rfl)
  refine lv_goto (tgt := 98) hx hb dX12_lead_90 (by decide) ?_
  refine lv_istore (lv' := [(7, .int 8), (6, .int 1), (5, .int 1), (0, .ref hm), (1, .int 65), (2, .int 0), (3, .int 0), (4, .int 0)]) hx hb dX12_lead_98 hl (by decide) rfl (fun ls hl => ?_)
  refine lv_iload hx hb dX12_lead_100 (lv_at hl 1 rfl) ?_
  refine lv_if_eq (tgt := 114) hx hb dX12_lead_102 (by decide) (fun c9 => absurd c9 (by decide)) (fun _ => ?_)
  refine lv_aload_n hx hb dX12_lead_105 rfl (lv_at hl 3 rfl) ?_
  refine va_get (D := D) (ci := 12) (v := .ref (ma 37)) (C := RX12) (T := TX12) (N := 74) hx hb hT i_TX12 hown hK hP 0 rfl rfl 37 (by decide) (hT _ t_1752) (fun _ h9 => h9) rfl dX12_lead_106 ?_
  refine lv_iload_n hx hb dX12_lead_109 rfl (lv_at hl 4 rfl) ?_
  refine va_iald hx hb hK hP 13 1 rfl rfl (vp_in_iff.mpr (by decide)) dX12_lead_110 ?_
  refine lv_topi (fun z18 e19 => ?_)
  obtain rfl : z18 = 2000 := e19.trans kmt
  refine lv_goto (tgt := 143) hx hb dX12_lead_111 (by decide) ?_
  refine lv_istore (lv' := [(8, .int 2000), (7, .int 8), (6, .int 1), (5, .int 1), (0, .ref hm), (1, .int 65), (2, .int 0), (3, .int 0), (4, .int 0)]) hx hb dX12_lead_143 hl (by decide) rfl (fun ls hl => ?_)
  refine lv_iload hx hb dX12_lead_145 (lv_at hl 0 rfl) ?_
  refine lv_sipush (v := 2000) hx hb dX12_lead_147 (by decide) ?_
  refine lv_icmp_eq (tgt := 176) hx hb dX12_lead_150 (by decide) (fun _ => ?_) (fun c9 => absurd (by decide) c9)
  refine lv_iload hx hb dX12_lead_176 (lv_at hl 2 rfl) ?_
  refine lv_if_eq (tgt := 197) hx hb dX12_lead_178 (by decide) (fun c9 => absurd c9 (by decide)) (fun _ => ?_)
  refine lv_aload_n hx hb dX12_lead_181 rfl (lv_at hl 4 rfl) ?_
  refine va_get (D := D) (ci := 12) (v := .ref (ma 33)) (C := RX12) (T := TX12) (N := 74) hx hb hT i_TX12 hown hK hP 0 rfl rfl 33 (by decide) (hT _ t_1748) (fun _ h9 => h9) rfl dX12_lead_182 ?_
  refine lv_iload_n hx hb dX12_lead_185 rfl (lv_at hl 5 rfl) ?_
  refine va_iald hx hb hK hP 14 1 rfl rfl (vp_in_iff.mpr (by decide)) dX12_lead_186 ?_
  refine lv_topi (fun z20 e21 => ?_)
  obtain rfl : z20 = 0 := e21.trans kml
  refine lv_sipush (v := 207) hx hb dX12_lead_187 (by decide) ?_
  refine lv_icmp_ne (tgt := 197) hx hb dX12_lead_190 (by decide) (fun _ => ?_) (fun c9 => absurd c9 (by decide))
  refine lv_iconst (v := 0) hx hb dX12_lead_197 (by decide) ?_
  refine lv_istore (lv' := [(9, .int 0), (8, .int 2000), (7, .int 8), (6, .int 1), (5, .int 1), (0, .ref hm), (1, .int 65), (2, .int 0), (3, .int 0), (4, .int 0)]) hx hb dX12_lead_198 hl (by decide) rfl (fun ls hl => ?_)
  refine lv_iconst (v := 0) hx hb dX12_lead_200 (by decide) ?_
  refine lv_istore (lv' := [(10, .int 0), (9, .int 0), (8, .int 2000), (7, .int 8), (6, .int 1), (5, .int 1), (0, .ref hm), (1, .int 65), (2, .int 0), (3, .int 0), (4, .int 0)]) hx hb dX12_lead_201 hl (by decide) rfl (fun ls hl => ?_)
  refine lv_iload hx hb dX12_lead_203 (lv_at hl 0 rfl) ?_
  refine lv_aload_n hx hb dX12_lead_205 rfl (lv_at hl 6 rfl) ?_
  refine va_get (D := D) (ci := 12) (v := .ref (ma 23)) (C := RX12) (T := TX12) (N := 74) hx hb hT i_TX12 hown hK hP 0 rfl rfl 23 (by decide) (hT _ t_1738) (fun _ h9 => h9) rfl dX12_lead_206 ?_
  refine lv_iload hx hb dX12_lead_209 (lv_at hl 3 rfl) ?_
  refine va_iald hx hb hK hP 4 1 rfl rfl (vp_in_iff.mpr (by decide)) dX12_lead_211 ?_
  refine lv_topi (fun z22 e23 => ?_)
  obtain rfl : z22 = 2 := e23.trans ktm
  refine lv_icmp_ge (tgt := 247) hx hb dX12_lead_212 (by decide) (fun c9 => absurd c9 (by decide)) (fun _ => ?_)
  refine lv_aload_n hx hb dX12_lead_215 rfl (lv_at hl 6 rfl) ?_
  refine va_get (D := D) (ci := 12) (v := .int 0) (C := RX12) (T := TX12) (N := 74) hx hb hT i_TX12 hown hK hP 0 rfl rfl 65 (by decide) (hT _ t_1780) (fun _ h9 => h9) rfl dX12_lead_216 ?_
  refine lv_if_ne (tgt := 247) hx hb dX12_lead_219 (by decide) (fun c9 => absurd (by decide) c9) (fun _ => ?_)
  refine lv_iload hx hb dX12_lead_222 (lv_at hl 1 rfl) ?_
  refine lv_if_ne (tgt := 247) hx hb dX12_lead_224 (by decide) (fun c9 => absurd (by decide) c9) (fun _ => ?_)
  refine lv_aload_n hx hb dX12_lead_227 rfl (lv_at hl 6 rfl) ?_
  refine lv_bipush (v := 8) hx hb dX12_lead_228 (by decide) ?_
  refine lv_iload hx hb dX12_lead_230 (lv_at hl 3 rfl) ?_
  refine lv_imul hx hb dX12_lead_232 ?_
  refine lv_topi (fun z24 e25 => ?_)
  obtain rfl : z24 = 64 := e25.trans (by first | decide | rfl)
  refine lv_iload hx hb dX12_lead_233 (lv_at hl 0 rfl) ?_
  refine lv_iadd hx hb dX12_lead_235 ?_
  refine lv_topi (fun z26 e27 => ?_)
  obtain rfl : z26 = 64 := e27.trans (by first | decide | rfl)
  refine lv_iload hx hb dX12_lead_236 (lv_at hl 5 rfl) ?_
  rcases Nat.eq_zero_or_pos d with rfl | hpos
  · exact va_dieV (Pc := fun _ _ => True) (ws := .code yX12_fill cX12_fill 4 none :: TB) (As := [.int 64, .int 1]) (rest := []) ⟨hx, hb, hml, hown, hT⟩ (fun k h9 => absurd h9 (by omega)) (cwV 2 hT (gTBV t_2229 t_2231 t_135 t_153 t_2232) rfl rfl rfl (by decide +kernel) ⟨by decide, by decide⟩) ⟨fun _ _ _ _ _ => trivial, va_recv hK hP (ci := 12) (q0 := 0) rfl rfl, fun _ _ _ => trivial⟩ hex hmc hlocks htg rfl rfl hl.1 rfl (lv_room (Nat.le_of_ble_eq_true rfl)) dX12_lead_238 rfl rfl (Nat.le_of_ble_eq_true rfl) (Nat.le_of_ble_eq_true rfl)
  · obtain ⟨k, rfl⟩ : ∃ k, d = k + 1 := ⟨d - 1, by omega⟩
    have hP : va_P D vwCl [(hm, .inr (12, [.int cd, .ref (ma 1), (fv 2), (fv 3), .ref (ma 4), (fv 5), (fv 6), (fv 7), (fv 8), (fv 9), (fv 10), (fv 11), (fv 12), (fv 13), (fv 14), .int 1, (fv 16), .ref (ma 17), .ref (ma 18), .ref (ma 19), .ref (ma 20), .ref (ma 21), .ref (ma 22), .ref (ma 23), .ref (ma 24), .ref (ma 25), .ref (ma 26), .ref (ma 27), .ref (ma 28), .ref (ma 29), .ref (ma 30), .ref (ma 31), .ref (ma 32), .ref (ma 33), .ref (ma 34), .ref (ma 35), .ref (ma 36), .ref (ma 37), .ref (ma 38), .ref (ma 39), .ref (ma 40), .ref (ma 41), .ref (ma 42), .ref (ma 43), .ref (ma 44), .ref (ma 45), .ref (ma 46), .ref (ma 47), .ref (ma 48), (fv 49), (fv 50), (fv 51), (fv 52), (fv 53), (fv 54), (fv 55), (fv 56), (fv 57), (fv 58), .ref (ma 59), .ref (ma 60), (fv 61), (fv 62), .int (nI 1), .int (nI 1), .int 0, .int rv, .ref (ma 67), .ref (ma 68), .ref (ma 69), .int 1, (fv 71), .int (nI 0), .ref (ma 73)])), ((ma 39), .inl (cy 1, 3400, .inl kf)), ((ma 40), .inl (cy 1, 3400, .inl af)), ((ma 46), .inl (cy 2, 3400, .inr (.inl nf))), ((ma 23), .inl (cy 1, 16, .inl tm)), ((ma 24), .inl (cy 1, 128, .inl mkf)), ((ma 25), .inl (cy 2, 128, .inr (.inl mnf))), ((ma 29), .inl (cy 1, 128, .inl mbf)), ((ma 68), .inl (cy 1, 210, .inl ttf)), ((ma 17), .inl (cy 1, 2, .inl ym)), ((ma 30), .inl (cy 1, 128, .inl mpf)), ((ma 59), .inl (cy 1, 16, .inl tsf)), ((ma 22), .inl (cy 1, 16, .inl tuf)), ((ma 37), .inl (cy 1, 128, .inl mtf)), ((ma 33), .inl (cy 1, 128, .inl mlf)), ((ma 69), .inl (cy 1, 13440, .inl ccf)), ((ma 67), .inl (cy 1, 78, .inl f15))] H := hP
    have hD : va_D A [(hm, .inr (12, [.int cd, .ref (ma 1), (fv 2), (fv 3), .ref (ma 4), (fv 5), (fv 6), (fv 7), (fv 8), (fv 9), (fv 10), (fv 11), (fv 12), (fv 13), (fv 14), .int 1, (fv 16), .ref (ma 17), .ref (ma 18), .ref (ma 19), .ref (ma 20), .ref (ma 21), .ref (ma 22), .ref (ma 23), .ref (ma 24), .ref (ma 25), .ref (ma 26), .ref (ma 27), .ref (ma 28), .ref (ma 29), .ref (ma 30), .ref (ma 31), .ref (ma 32), .ref (ma 33), .ref (ma 34), .ref (ma 35), .ref (ma 36), .ref (ma 37), .ref (ma 38), .ref (ma 39), .ref (ma 40), .ref (ma 41), .ref (ma 42), .ref (ma 43), .ref (ma 44), .ref (ma 45), .ref (ma 46), .ref (ma 47), .ref (ma 48), (fv 49), (fv 50), (fv 51), (fv 52), (fv 53), (fv 54), (fv 55), (fv 56), (fv 57), (fv 58), .ref (ma 59), .ref (ma 60), (fv 61), (fv 62), .int (nI 1), .int (nI 1), .int 0, .int rv, .ref (ma 67), .ref (ma 68), .ref (ma 69), .int 1, (fv 71), .int (nI 0), .ref (ma 73)])), ((ma 39), .inl (cy 1, 3400, .inl kf)), ((ma 40), .inl (cy 1, 3400, .inl af)), ((ma 46), .inl (cy 2, 3400, .inr (.inl nf))), ((ma 23), .inl (cy 1, 16, .inl tm)), ((ma 24), .inl (cy 1, 128, .inl mkf)), ((ma 25), .inl (cy 2, 128, .inr (.inl mnf))), ((ma 29), .inl (cy 1, 128, .inl mbf)), ((ma 68), .inl (cy 1, 210, .inl ttf)), ((ma 17), .inl (cy 1, 2, .inl ym)), ((ma 30), .inl (cy 1, 128, .inl mpf)), ((ma 59), .inl (cy 1, 16, .inl tsf)), ((ma 22), .inl (cy 1, 16, .inl tuf)), ((ma 37), .inl (cy 1, 128, .inl mtf)), ((ma 33), .inl (cy 1, 128, .inl mlf)), ((ma 69), .inl (cy 1, 13440, .inl ccf)), ((ma 67), .inl (cy 1, 78, .inl f15))] := hD
    have hPc := hP.sub (ws' := [(hm, .inr (12, [.int cd, .ref (ma 1), (fv 2), (fv 3), .ref (ma 4), (fv 5), (fv 6), (fv 7), (fv 8), (fv 9), (fv 10), (fv 11), (fv 12), (fv 13), (fv 14), .int 1, (fv 16), .ref (ma 17), .ref (ma 18), .ref (ma 19), .ref (ma 20), .ref (ma 21), .ref (ma 22), .ref (ma 23), .ref (ma 24), .ref (ma 25), .ref (ma 26), .ref (ma 27), .ref (ma 28), .ref (ma 29), .ref (ma 30), .ref (ma 31), .ref (ma 32), .ref (ma 33), .ref (ma 34), .ref (ma 35), .ref (ma 36), .ref (ma 37), .ref (ma 38), .ref (ma 39), .ref (ma 40), .ref (ma 41), .ref (ma 42), .ref (ma 43), .ref (ma 44), .ref (ma 45), .ref (ma 46), .ref (ma 47), .ref (ma 48), (fv 49), (fv 50), (fv 51), (fv 52), (fv 53), (fv 54), (fv 55), (fv 56), (fv 57), (fv 58), .ref (ma 59), .ref (ma 60), (fv 61), (fv 62), .int (nI 1), .int (nI 1), .int 0, .int rv, .ref (ma 67), .ref (ma 68), .ref (ma 69), .int 1, (fv 71), .int (nI 0), .ref (ma 73)])), ((ma 39), .inl (cy 1, 3400, .inl kf)), ((ma 40), .inl (cy 1, 3400, .inl af)), ((ma 46), .inl (cy 2, 3400, .inr (.inl nf))), ((ma 23), .inl (cy 1, 16, .inl tm)), ((ma 24), .inl (cy 1, 128, .inl mkf)), ((ma 25), .inl (cy 2, 128, .inr (.inl mnf))), ((ma 29), .inl (cy 1, 128, .inl mbf)), ((ma 68), .inl (cy 1, 210, .inl ttf)), ((ma 17), .inl (cy 1, 2, .inl ym)), ((ma 30), .inl (cy 1, 128, .inl mpf)), ((ma 59), .inl (cy 1, 16, .inl tsf)), ((ma 22), .inl (cy 1, 16, .inl tuf)), ((ma 37), .inl (cy 1, 128, .inl mtf)), ((ma 33), .inl (cy 1, 128, .inl mlf)), ((ma 69), .inl (cy 1, 13440, .inl ccf)), ((ma 67), .inl (cy 1, 78, .inl f15))]) [0, 1, 2, 3, 4, 5, 6, 7, 8, 9, 10, 11, 12, 13, 14, 15, 16] rfl
    have hDc := hD.sub (ws' := [(hm, .inr (12, [.int cd, .ref (ma 1), (fv 2), (fv 3), .ref (ma 4), (fv 5), (fv 6), (fv 7), (fv 8), (fv 9), (fv 10), (fv 11), (fv 12), (fv 13), (fv 14), .int 1, (fv 16), .ref (ma 17), .ref (ma 18), .ref (ma 19), .ref (ma 20), .ref (ma 21), .ref (ma 22), .ref (ma 23), .ref (ma 24), .ref (ma 25), .ref (ma 26), .ref (ma 27), .ref (ma 28), .ref (ma 29), .ref (ma 30), .ref (ma 31), .ref (ma 32), .ref (ma 33), .ref (ma 34), .ref (ma 35), .ref (ma 36), .ref (ma 37), .ref (ma 38), .ref (ma 39), .ref (ma 40), .ref (ma 41), .ref (ma 42), .ref (ma 43), .ref (ma 44), .ref (ma 45), .ref (ma 46), .ref (ma 47), .ref (ma 48), (fv 49), (fv 50), (fv 51), (fv 52), (fv 53), (fv 54), (fv 55), (fv 56), (fv 57), (fv 58), .ref (ma 59), .ref (ma 60), (fv 61), (fv 62), .int (nI 1), .int (nI 1), .int 0, .int rv, .ref (ma 67), .ref (ma 68), .ref (ma 69), .int 1, (fv 71), .int (nI 0), .ref (ma 73)])), ((ma 39), .inl (cy 1, 3400, .inl kf)), ((ma 40), .inl (cy 1, 3400, .inl af)), ((ma 46), .inl (cy 2, 3400, .inr (.inl nf))), ((ma 23), .inl (cy 1, 16, .inl tm)), ((ma 24), .inl (cy 1, 128, .inl mkf)), ((ma 25), .inl (cy 2, 128, .inr (.inl mnf))), ((ma 29), .inl (cy 1, 128, .inl mbf)), ((ma 68), .inl (cy 1, 210, .inl ttf)), ((ma 17), .inl (cy 1, 2, .inl ym)), ((ma 30), .inl (cy 1, 128, .inl mpf)), ((ma 59), .inl (cy 1, 16, .inl tsf)), ((ma 22), .inl (cy 1, 16, .inl tuf)), ((ma 37), .inl (cy 1, 128, .inl mtf)), ((ma 33), .inl (cy 1, 128, .inl mlf)), ((ma 69), .inl (cy 1, 13440, .inl ccf)), ((ma 67), .inl (cy 1, 78, .inl f15))]) [0, 1, 2, 3, 4, 5, 6, 7, 8, 9, 10, 11, 12, 13, 14, 15, 16] (by decide) rfl
    have hFc := va_free (wc := [(hm, .inr (12, [.int cd, .ref (ma 1), (fv 2), (fv 3), .ref (ma 4), (fv 5), (fv 6), (fv 7), (fv 8), (fv 9), (fv 10), (fv 11), (fv 12), (fv 13), (fv 14), .int 1, (fv 16), .ref (ma 17), .ref (ma 18), .ref (ma 19), .ref (ma 20), .ref (ma 21), .ref (ma 22), .ref (ma 23), .ref (ma 24), .ref (ma 25), .ref (ma 26), .ref (ma 27), .ref (ma 28), .ref (ma 29), .ref (ma 30), .ref (ma 31), .ref (ma 32), .ref (ma 33), .ref (ma 34), .ref (ma 35), .ref (ma 36), .ref (ma 37), .ref (ma 38), .ref (ma 39), .ref (ma 40), .ref (ma 41), .ref (ma 42), .ref (ma 43), .ref (ma 44), .ref (ma 45), .ref (ma 46), .ref (ma 47), .ref (ma 48), (fv 49), (fv 50), (fv 51), (fv 52), (fv 53), (fv 54), (fv 55), (fv 56), (fv 57), (fv 58), .ref (ma 59), .ref (ma 60), (fv 61), (fv 62), .int (nI 1), .int (nI 1), .int 0, .int rv, .ref (ma 67), .ref (ma 68), .ref (ma 69), .int 1, (fv 71), .int (nI 0), .ref (ma 73)])), ((ma 39), .inl (cy 1, 3400, .inl kf)), ((ma 40), .inl (cy 1, 3400, .inl af)), ((ma 46), .inl (cy 2, 3400, .inr (.inl nf))), ((ma 23), .inl (cy 1, 16, .inl tm)), ((ma 24), .inl (cy 1, 128, .inl mkf)), ((ma 25), .inl (cy 2, 128, .inr (.inl mnf))), ((ma 29), .inl (cy 1, 128, .inl mbf)), ((ma 68), .inl (cy 1, 210, .inl ttf)), ((ma 17), .inl (cy 1, 2, .inl ym)), ((ma 30), .inl (cy 1, 128, .inl mpf)), ((ma 59), .inl (cy 1, 16, .inl tsf)), ((ma 22), .inl (cy 1, 16, .inl tuf)), ((ma 37), .inl (cy 1, 128, .inl mtf)), ((ma 33), .inl (cy 1, 128, .inl mlf)), ((ma 69), .inl (cy 1, 13440, .inl ccf)), ((ma 67), .inl (cy 1, 78, .inl f15))]) hD hS hA [0, 1, 2, 3, 4, 5, 6, 7, 8, 9, 10, 11, 12, 13, 14, 15, 16] rfl
    refine va_callv (va_runV (As := [.int 64, .int 1]) (rest := []) ⟨hx, hb, hml, hown, hT⟩ (d_fill0 l D cy H.size hm ma fv kf af nf tm mkf mnf mbf ttf kn nn 0 tt bb ss nm 1 1 rv cd 1 1 mb ms mx ym mpf tsf tuf mtf mlf ccf f15 1 hk0) (cwV 2 hT (gTBV t_2229 t_2231 t_135 t_153 t_2232) rfl rfl rfl (by decide +kernel) ⟨Nat.le_add_left 1 k, Nat.le_trans (m := 40) (Nat.le_of_ble_eq_true rfl) (by show 40 ≤ 40 * (k + 1); omega)⟩) ⟨fun a U g mk q => by obtain ⟨q0, q1, qP, qK, qD⟩ := q; exact ⟨q0, q1, qP, va_K.moved (u := U) (U := U.calling g mk a) (Vm.Alike.refl U.vm) qK, qD⟩, va_recv hK hPc (ci := 12) (q0 := 0) rfl rfl, fun U hU hW => ⟨rfl, by rw [hU], by rw [hU]; exact hPc, va_K.moved hW.alike hK, hDc.weaken (fun _ _ _ _ => trivial)⟩⟩ rfl rfl hl.1 rfl (lv_room (Nat.le_of_ble_eq_true rfl)) dX12_lead_238 ⟨Nat.le_of_ble_eq_true rfl, Nat.le_of_ble_eq_true rfl⟩) hS (fun q _ h => hFc q h) hFc (fun  u t H1 locs ht hvm w28 hB hz1 hk1 hS => ?_)
    obtain ⟨hP1, hD1⟩ := hB
    rw [ht] at hP1
    obtain ⟨hP, hD⟩ := va_join (wr := []) (w1 := [(hm, .inr (12, [.int cd, .ref (ma 1), (fv 2), (fv 3), .ref (ma 4), (fv 5), (fv 6), (fv 7), (fv 8), (fv 9), (fv 10), (fv 11), (fv 12), (fv 13), (fv 14), .int 1, (fv 16), .ref (ma 17), .ref (ma 18), .ref (ma 19), .ref (ma 20), .ref (ma 21), .ref (ma 22), .ref (ma 23), .ref (ma 24), .ref (ma 25), .ref (ma 26), .ref (ma 27), .ref (ma 28), .ref (ma 29), .ref (ma 30), .ref (ma 31), .ref (ma 32), .ref (ma 33), .ref (ma 34), .ref (ma 35), .ref (ma 36), .ref (ma 37), .ref (ma 38), .ref (ma 39), .ref (ma 40), .ref (ma 41), .ref (ma 42), .ref (ma 43), .ref (ma 44), .ref (ma 45), .ref (ma 46), .ref (ma 47), .ref (ma 48), (fv 49), (fv 50), (fv 51), (fv 52), (fv 53), (fv 54), (fv 55), (fv 56), (fv 57), (fv 58), .ref (ma 59), .ref (ma 60), (fv 61), (fv 62), .int (nI 1), .int (nI 1), .int 0, .int rv, .ref (ma 67), .ref (ma 68), .ref (ma 69), .int 1, (fv 71), .int (nI 0), .ref (ma 73)])), ((ma 39), .inl (cy 1, 3400, .inl kf)), ((ma 40), .inl (cy 1, 3400, .inl af)), ((ma 46), .inl (cy 2, 3400, .inr (.inl nf))), ((ma 23), .inl (cy 1, 16, .inl tm)), ((ma 24), .inl (cy 1, 128, .inl mkf)), ((ma 25), .inl (cy 2, 128, .inr (.inl mnf))), ((ma 29), .inl (cy 1, 128, .inl mbf)), ((ma 68), .inl (cy 1, 210, .inl ttf)), ((ma 17), .inl (cy 1, 2, .inl ym)), ((ma 30), .inl (cy 1, 128, .inl mpf)), ((ma 59), .inl (cy 1, 16, .inl tsf)), ((ma 22), .inl (cy 1, 16, .inl tuf)), ((ma 37), .inl (cy 1, 128, .inl mtf)), ((ma 33), .inl (cy 1, 128, .inl mlf)), ((ma 69), .inl (cy 1, 13440, .inl ccf)), ((ma 67), .inl (cy 1, 78, .inl f15))]) hP hD [0, 1, 2, 3, 4, 5, 6, 7, 8, 9, 10, 11, 12, 13, 14, 15, 16] [] rfl rfl (by decide) (by decide) hk1 hFc hP1 hD1
    generalize H1 = H at hP hS ⊢
    have hP : va_P D vwCl [(hm, .inr (12, [.int cd, .ref (ma 1), (fv 2), (fv 3), .ref (ma 4), (fv 5), (fv 6), (fv 7), (fv 8), (fv 9), (fv 10), (fv 11), (fv 12), (fv 13), (fv 14), .int 1, (fv 16), .ref (ma 17), .ref (ma 18), .ref (ma 19), .ref (ma 20), .ref (ma 21), .ref (ma 22), .ref (ma 23), .ref (ma 24), .ref (ma 25), .ref (ma 26), .ref (ma 27), .ref (ma 28), .ref (ma 29), .ref (ma 30), .ref (ma 31), .ref (ma 32), .ref (ma 33), .ref (ma 34), .ref (ma 35), .ref (ma 36), .ref (ma 37), .ref (ma 38), .ref (ma 39), .ref (ma 40), .ref (ma 41), .ref (ma 42), .ref (ma 43), .ref (ma 44), .ref (ma 45), .ref (ma 46), .ref (ma 47), .ref (ma 48), (fv 49), (fv 50), (fv 51), (fv 52), (fv 53), (fv 54), (fv 55), (fv 56), (fv 57), (fv 58), .ref (ma 59), .ref (ma 60), (fv 61), (fv 62), .int (nI 1), .int (nI 1), .int 0, .int rv, .ref (ma 67), .ref (ma 68), .ref (ma 69), .int 1, (fv 71), .int (nI 0), .ref (ma 73)])), ((ma 39), .inl (cy 1, 3400, .inl kf)), ((ma 40), .inl (cy 1, 3400, .inl af)), ((ma 46), .inl (cy 2, 3400, .inr (.inl nf))), ((ma 23), .inl (cy 1, 16, .inl tm)), ((ma 24), .inl (cy 1, 128, .inl mkf)), ((ma 25), .inl (cy 2, 128, .inr (.inl mnf))), ((ma 29), .inl (cy 1, 128, .inl mbf)), ((ma 68), .inl (cy 1, 210, .inl ttf)), ((ma 17), .inl (cy 1, 2, .inl ym)), ((ma 30), .inl (cy 1, 128, .inl mpf)), ((ma 59), .inl (cy 1, 16, .inl tsf)), ((ma 22), .inl (cy 1, 16, .inl tuf)), ((ma 37), .inl (cy 1, 128, .inl mtf)), ((ma 33), .inl (cy 1, 128, .inl mlf)), ((ma 69), .inl (cy 1, 13440, .inl ccf)), ((ma 67), .inl (cy 1, 78, .inl f15))] H := hP
    have hD : va_D A [(hm, .inr (12, [.int cd, .ref (ma 1), (fv 2), (fv 3), .ref (ma 4), (fv 5), (fv 6), (fv 7), (fv 8), (fv 9), (fv 10), (fv 11), (fv 12), (fv 13), (fv 14), .int 1, (fv 16), .ref (ma 17), .ref (ma 18), .ref (ma 19), .ref (ma 20), .ref (ma 21), .ref (ma 22), .ref (ma 23), .ref (ma 24), .ref (ma 25), .ref (ma 26), .ref (ma 27), .ref (ma 28), .ref (ma 29), .ref (ma 30), .ref (ma 31), .ref (ma 32), .ref (ma 33), .ref (ma 34), .ref (ma 35), .ref (ma 36), .ref (ma 37), .ref (ma 38), .ref (ma 39), .ref (ma 40), .ref (ma 41), .ref (ma 42), .ref (ma 43), .ref (ma 44), .ref (ma 45), .ref (ma 46), .ref (ma 47), .ref (ma 48), (fv 49), (fv 50), (fv 51), (fv 52), (fv 53), (fv 54), (fv 55), (fv 56), (fv 57), (fv 58), .ref (ma 59), .ref (ma 60), (fv 61), (fv 62), .int (nI 1), .int (nI 1), .int 0, .int rv, .ref (ma 67), .ref (ma 68), .ref (ma 69), .int 1, (fv 71), .int (nI 0), .ref (ma 73)])), ((ma 39), .inl (cy 1, 3400, .inl kf)), ((ma 40), .inl (cy 1, 3400, .inl af)), ((ma 46), .inl (cy 2, 3400, .inr (.inl nf))), ((ma 23), .inl (cy 1, 16, .inl tm)), ((ma 24), .inl (cy 1, 128, .inl mkf)), ((ma 25), .inl (cy 2, 128, .inr (.inl mnf))), ((ma 29), .inl (cy 1, 128, .inl mbf)), ((ma 68), .inl (cy 1, 210, .inl ttf)), ((ma 17), .inl (cy 1, 2, .inl ym)), ((ma 30), .inl (cy 1, 128, .inl mpf)), ((ma 59), .inl (cy 1, 16, .inl tsf)), ((ma 22), .inl (cy 1, 16, .inl tuf)), ((ma 37), .inl (cy 1, 128, .inl mtf)), ((ma 33), .inl (cy 1, 128, .inl mlf)), ((ma 69), .inl (cy 1, 13440, .inl ccf)), ((ma 67), .inl (cy 1, 78, .inl f15))] := hD
    have hP : va_P D vwCl [(hm, .inr (12, [.int cd, .ref (ma 1), (fv 2), (fv 3), .ref (ma 4), (fv 5), (fv 6), (fv 7), (fv 8), (fv 9), (fv 10), (fv 11), (fv 12), (fv 13), (fv 14), .int 1, (fv 16), .ref (ma 17), .ref (ma 18), .ref (ma 19), .ref (ma 20), .ref (ma 21), .ref (ma 22), .ref (ma 23), .ref (ma 24), .ref (ma 25), .ref (ma 26), .ref (ma 27), .ref (ma 28), .ref (ma 29), .ref (ma 30), .ref (ma 31), .ref (ma 32), .ref (ma 33), .ref (ma 34), .ref (ma 35), .ref (ma 36), .ref (ma 37), .ref (ma 38), .ref (ma 39), .ref (ma 40), .ref (ma 41), .ref (ma 42), .ref (ma 43), .ref (ma 44), .ref (ma 45), .ref (ma 46), .ref (ma 47), .ref (ma 48), (fv 49), (fv 50), (fv 51), (fv 52), (fv 53), (fv 54), (fv 55), (fv 56), (fv 57), (fv 58), .ref (ma 59), .ref (ma 60), (fv 61), (fv 62), .int (nI 1), .int (nI 1), .int 0, .int rv, .ref (ma 67), .ref (ma 68), .ref (ma 69), .int 1, (fv 71), .int (nI 0), .ref (ma 73)])), ((ma 39), .inl (cy 1, 3400, .inl kf)), ((ma 40), .inl (cy 1, 3400, .inl af)), ((ma 46), .inl (cy 2, 3400, .inr (.inl nf))), ((ma 23), .inl (cy 1, 16, .inl tm)), ((ma 24), .inl (cy 1, 128, .inl mkf)), ((ma 25), .inl (cy 2, 128, .inr (.inl mnf))), ((ma 29), .inl (cy 1, 128, .inl mbf)), ((ma 68), .inl (cy 1, 210, .inl ttf)), ((ma 17), .inl (cy 1, 2, .inl ym)), ((ma 30), .inl (cy 1, 128, .inl mpf)), ((ma 59), .inl (cy 1, 16, .inl tsf)), ((ma 22), .inl (cy 1, 16, .inl tuf)), ((ma 37), .inl (cy 1, 128, .inl mtf)), ((ma 33), .inl (cy 1, 128, .inl mlf)), ((ma 69), .inl (cy 1, 13440, .inl ccf)), ((ma 67), .inl (cy 1, 78, .inl f15))] H := hP
    have hD : va_D A [(hm, .inr (12, [.int cd, .ref (ma 1), (fv 2), (fv 3), .ref (ma 4), (fv 5), (fv 6), (fv 7), (fv 8), (fv 9), (fv 10), (fv 11), (fv 12), (fv 13), (fv 14), .int 1, (fv 16), .ref (ma 17), .ref (ma 18), .ref (ma 19), .ref (ma 20), .ref (ma 21), .ref (ma 22), .ref (ma 23), .ref (ma 24), .ref (ma 25), .ref (ma 26), .ref (ma 27), .ref (ma 28), .ref (ma 29), .ref (ma 30), .ref (ma 31), .ref (ma 32), .ref (ma 33), .ref (ma 34), .ref (ma 35), .ref (ma 36), .ref (ma 37), .ref (ma 38), .ref (ma 39), .ref (ma 40), .ref (ma 41), .ref (ma 42), .ref (ma 43), .ref (ma 44), .ref (ma 45), .ref (ma 46), .ref (ma 47), .ref (ma 48), (fv 49), (fv 50), (fv 51), (fv 52), (fv 53), (fv 54), (fv 55), (fv 56), (fv 57), (fv 58), .ref (ma 59), .ref (ma 60), (fv 61), (fv 62), .int (nI 1), .int (nI 1), .int 0, .int rv, .ref (ma 67), .ref (ma 68), .ref (ma 69), .int 1, (fv 71), .int (nI 0), .ref (ma 73)])), ((ma 39), .inl (cy 1, 3400, .inl kf)), ((ma 40), .inl (cy 1, 3400, .inl af)), ((ma 46), .inl (cy 2, 3400, .inr (.inl nf))), ((ma 23), .inl (cy 1, 16, .inl tm)), ((ma 24), .inl (cy 1, 128, .inl mkf)), ((ma 25), .inl (cy 2, 128, .inr (.inl mnf))), ((ma 29), .inl (cy 1, 128, .inl mbf)), ((ma 68), .inl (cy 1, 210, .inl ttf)), ((ma 17), .inl (cy 1, 2, .inl ym)), ((ma 30), .inl (cy 1, 128, .inl mpf)), ((ma 59), .inl (cy 1, 16, .inl tsf)), ((ma 22), .inl (cy 1, 16, .inl tuf)), ((ma 37), .inl (cy 1, 128, .inl mtf)), ((ma 33), .inl (cy 1, 128, .inl mlf)), ((ma 69), .inl (cy 1, 13440, .inl ccf)), ((ma 67), .inl (cy 1, 78, .inl f15))] := hD
    refine lv_iinc (v := 1) (lv' := [(10, .int 1), (9, .int 0), (8, .int 2000), (7, .int 8), (6, .int 1), (5, .int 1), (0, .ref hm), (1, .int 65), (2, .int 0), (3, .int 0), (4, .int 0)]) hx hb dX12_lead_241 hl (k := 0) rfl (by decide) (by decide) rfl (fun ls hl => ?_)
    refine lv_goto (tgt := 203) hx hb dX12_lead_244 (by decide) ?_
    refine lv_iload hx hb dX12_lead_203 (lv_at hl 0 rfl) ?_
    refine lv_aload_n hx hb dX12_lead_205 rfl (lv_at hl 6 rfl) ?_
    refine va_get (D := D) (ci := 12) (v := .ref (ma 23)) (C := RX12) (T := TX12) (N := 74) hx hb hT i_TX12 hown hK hP 0 rfl rfl 23 (by decide) (hT _ t_1738) (fun _ h9 => h9) rfl dX12_lead_206 ?_
    refine lv_iload hx hb dX12_lead_209 (lv_at hl 3 rfl) ?_
    refine va_iald hx hb hK hP 4 1 rfl rfl (vp_in_iff.mpr (by decide)) dX12_lead_211 ?_
    refine lv_topi (fun z29 e30 => ?_)
    obtain rfl : z29 = 2 := e30.trans ktm
    refine lv_icmp_ge (tgt := 247) hx hb dX12_lead_212 (by decide) (fun c9 => absurd c9 (by decide)) (fun _ => ?_)
    refine lv_aload_n hx hb dX12_lead_215 rfl (lv_at hl 6 rfl) ?_
    refine va_get (D := D) (ci := 12) (v := .int 0) (C := RX12) (T := TX12) (N := 74) hx hb hT i_TX12 hown hK hP 0 rfl rfl 65 (by decide) (hT _ t_1780) (fun _ h9 => h9) rfl dX12_lead_216 ?_
    refine lv_if_ne (tgt := 247) hx hb dX12_lead_219 (by decide) (fun c9 => absurd (by decide) c9) (fun _ => ?_)
    refine lv_iload hx hb dX12_lead_222 (lv_at hl 1 rfl) ?_
    refine lv_if_ne (tgt := 247) hx hb dX12_lead_224 (by decide) (fun c9 => absurd (by decide) c9) (fun _ => ?_)
    refine lv_aload_n hx hb dX12_lead_227 rfl (lv_at hl 6 rfl) ?_
    refine lv_bipush (v := 8) hx hb dX12_lead_228 (by decide) ?_
    refine lv_iload hx hb dX12_lead_230 (lv_at hl 3 rfl) ?_
    refine lv_imul hx hb dX12_lead_232 ?_
    refine lv_topi (fun z31 e32 => ?_)
    obtain rfl : z31 = 64 := e32.trans (by first | decide | rfl)
    refine lv_iload hx hb dX12_lead_233 (lv_at hl 0 rfl) ?_
    refine lv_iadd hx hb dX12_lead_235 ?_
    refine lv_topi (fun z33 e34 => ?_)
    obtain rfl : z33 = 65 := e34.trans (by first | decide | rfl)
    refine lv_iload hx hb dX12_lead_236 (lv_at hl 5 rfl) ?_
    have hPc := hP.sub (ws' := [(hm, .inr (12, [.int cd, .ref (ma 1), (fv 2), (fv 3), .ref (ma 4), (fv 5), (fv 6), (fv 7), (fv 8), (fv 9), (fv 10), (fv 11), (fv 12), (fv 13), (fv 14), .int 1, (fv 16), .ref (ma 17), .ref (ma 18), .ref (ma 19), .ref (ma 20), .ref (ma 21), .ref (ma 22), .ref (ma 23), .ref (ma 24), .ref (ma 25), .ref (ma 26), .ref (ma 27), .ref (ma 28), .ref (ma 29), .ref (ma 30), .ref (ma 31), .ref (ma 32), .ref (ma 33), .ref (ma 34), .ref (ma 35), .ref (ma 36), .ref (ma 37), .ref (ma 38), .ref (ma 39), .ref (ma 40), .ref (ma 41), .ref (ma 42), .ref (ma 43), .ref (ma 44), .ref (ma 45), .ref (ma 46), .ref (ma 47), .ref (ma 48), (fv 49), (fv 50), (fv 51), (fv 52), (fv 53), (fv 54), (fv 55), (fv 56), (fv 57), (fv 58), .ref (ma 59), .ref (ma 60), (fv 61), (fv 62), .int (nI 1), .int (nI 1), .int 0, .int rv, .ref (ma 67), .ref (ma 68), .ref (ma 69), .int 1, (fv 71), .int (nI 0), .ref (ma 73)])), ((ma 39), .inl (cy 1, 3400, .inl kf)), ((ma 40), .inl (cy 1, 3400, .inl af)), ((ma 46), .inl (cy 2, 3400, .inr (.inl nf))), ((ma 23), .inl (cy 1, 16, .inl tm)), ((ma 24), .inl (cy 1, 128, .inl mkf)), ((ma 25), .inl (cy 2, 128, .inr (.inl mnf))), ((ma 29), .inl (cy 1, 128, .inl mbf)), ((ma 68), .inl (cy 1, 210, .inl ttf)), ((ma 17), .inl (cy 1, 2, .inl ym)), ((ma 30), .inl (cy 1, 128, .inl mpf)), ((ma 59), .inl (cy 1, 16, .inl tsf)), ((ma 22), .inl (cy 1, 16, .inl tuf)), ((ma 37), .inl (cy 1, 128, .inl mtf)), ((ma 33), .inl (cy 1, 128, .inl mlf)), ((ma 69), .inl (cy 1, 13440, .inl ccf)), ((ma 67), .inl (cy 1, 78, .inl f15))]) [0, 1, 2, 3, 4, 5, 6, 7, 8, 9, 10, 11, 12, 13, 14, 15, 16] rfl
    have hDc := hD.sub (ws' := [(hm, .inr (12, [.int cd, .ref (ma 1), (fv 2), (fv 3), .ref (ma 4), (fv 5), (fv 6), (fv 7), (fv 8), (fv 9), (fv 10), (fv 11), (fv 12), (fv 13), (fv 14), .int 1, (fv 16), .ref (ma 17), .ref (ma 18), .ref (ma 19), .ref (ma 20), .ref (ma 21), .ref (ma 22), .ref (ma 23), .ref (ma 24), .ref (ma 25), .ref (ma 26), .ref (ma 27), .ref (ma 28), .ref (ma 29), .ref (ma 30), .ref (ma 31), .ref (ma 32), .ref (ma 33), .ref (ma 34), .ref (ma 35), .ref (ma 36), .ref (ma 37), .ref (ma 38), .ref (ma 39), .ref (ma 40), .ref (ma 41), .ref (ma 42), .ref (ma 43), .ref (ma 44), .ref (ma 45), .ref (ma 46), .ref (ma 47), .ref (ma 48), (fv 49), (fv 50), (fv 51), (fv 52), (fv 53), (fv 54), (fv 55), (fv 56), (fv 57), (fv 58), .ref (ma 59), .ref (ma 60), (fv 61), (fv 62), .int (nI 1), .int (nI 1), .int 0, .int rv, .ref (ma 67), .ref (ma 68), .ref (ma 69), .int 1, (fv 71), .int (nI 0), .ref (ma 73)])), ((ma 39), .inl (cy 1, 3400, .inl kf)), ((ma 40), .inl (cy 1, 3400, .inl af)), ((ma 46), .inl (cy 2, 3400, .inr (.inl nf))), ((ma 23), .inl (cy 1, 16, .inl tm)), ((ma 24), .inl (cy 1, 128, .inl mkf)), ((ma 25), .inl (cy 2, 128, .inr (.inl mnf))), ((ma 29), .inl (cy 1, 128, .inl mbf)), ((ma 68), .inl (cy 1, 210, .inl ttf)), ((ma 17), .inl (cy 1, 2, .inl ym)), ((ma 30), .inl (cy 1, 128, .inl mpf)), ((ma 59), .inl (cy 1, 16, .inl tsf)), ((ma 22), .inl (cy 1, 16, .inl tuf)), ((ma 37), .inl (cy 1, 128, .inl mtf)), ((ma 33), .inl (cy 1, 128, .inl mlf)), ((ma 69), .inl (cy 1, 13440, .inl ccf)), ((ma 67), .inl (cy 1, 78, .inl f15))]) [0, 1, 2, 3, 4, 5, 6, 7, 8, 9, 10, 11, 12, 13, 14, 15, 16] (by decide) rfl
    have hFc := va_free (wc := [(hm, .inr (12, [.int cd, .ref (ma 1), (fv 2), (fv 3), .ref (ma 4), (fv 5), (fv 6), (fv 7), (fv 8), (fv 9), (fv 10), (fv 11), (fv 12), (fv 13), (fv 14), .int 1, (fv 16), .ref (ma 17), .ref (ma 18), .ref (ma 19), .ref (ma 20), .ref (ma 21), .ref (ma 22), .ref (ma 23), .ref (ma 24), .ref (ma 25), .ref (ma 26), .ref (ma 27), .ref (ma 28), .ref (ma 29), .ref (ma 30), .ref (ma 31), .ref (ma 32), .ref (ma 33), .ref (ma 34), .ref (ma 35), .ref (ma 36), .ref (ma 37), .ref (ma 38), .ref (ma 39), .ref (ma 40), .ref (ma 41), .ref (ma 42), .ref (ma 43), .ref (ma 44), .ref (ma 45), .ref (ma 46), .ref (ma 47), .ref (ma 48), (fv 49), (fv 50), (fv 51), (fv 52), (fv 53), (fv 54), (fv 55), (fv 56), (fv 57), (fv 58), .ref (ma 59), .ref (ma 60), (fv 61), (fv 62), .int (nI 1), .int (nI 1), .int 0, .int rv, .ref (ma 67), .ref (ma 68), .ref (ma 69), .int 1, (fv 71), .int (nI 0), .ref (ma 73)])), ((ma 39), .inl (cy 1, 3400, .inl kf)), ((ma 40), .inl (cy 1, 3400, .inl af)), ((ma 46), .inl (cy 2, 3400, .inr (.inl nf))), ((ma 23), .inl (cy 1, 16, .inl tm)), ((ma 24), .inl (cy 1, 128, .inl mkf)), ((ma 25), .inl (cy 2, 128, .inr (.inl mnf))), ((ma 29), .inl (cy 1, 128, .inl mbf)), ((ma 68), .inl (cy 1, 210, .inl ttf)), ((ma 17), .inl (cy 1, 2, .inl ym)), ((ma 30), .inl (cy 1, 128, .inl mpf)), ((ma 59), .inl (cy 1, 16, .inl tsf)), ((ma 22), .inl (cy 1, 16, .inl tuf)), ((ma 37), .inl (cy 1, 128, .inl mtf)), ((ma 33), .inl (cy 1, 128, .inl mlf)), ((ma 69), .inl (cy 1, 13440, .inl ccf)), ((ma 67), .inl (cy 1, 78, .inl f15))]) hD hS hA [0, 1, 2, 3, 4, 5, 6, 7, 8, 9, 10, 11, 12, 13, 14, 15, 16] rfl
    refine va_callv (va_runV (As := [.int 65, .int 1]) (rest := []) ⟨hx, hb, hml, hown, hT⟩ (d_fill1 l D cy H.size hm ma fv kf af nf tm mkf mnf mbf ttf kn nn 0 tt bb ss nm 1 1 rv cd 1 1 mb ms mx ym mpf tsf tuf mtf mlf ccf f15 1 hk0) (cwV 2 hT (gTBV t_2229 t_2231 t_135 t_153 t_2232) rfl rfl rfl (by decide +kernel) ⟨Nat.le_add_left 1 k, Nat.le_trans (m := 40) (Nat.le_of_ble_eq_true rfl) (by show 40 ≤ 40 * (k + 1); omega)⟩) ⟨fun a U g mk q => by obtain ⟨q0, q1, qP, qK, qD⟩ := q; exact ⟨q0, q1, qP, va_K.moved (u := U) (U := U.calling g mk a) (Vm.Alike.refl U.vm) qK, qD⟩, va_recv hK hPc (ci := 12) (q0 := 0) rfl rfl, fun U hU hW => ⟨rfl, by rw [hU], by rw [hU]; exact hPc, va_K.moved hW.alike hK, hDc.weaken (fun _ _ _ _ => trivial)⟩⟩ rfl rfl hl.1 rfl (lv_room (Nat.le_of_ble_eq_true rfl)) dX12_lead_238 ⟨Nat.le_of_ble_eq_true rfl, Nat.le_of_ble_eq_true rfl⟩) hS (fun q _ h => hFc q h) hFc (fun  u t H1 locs ht hvm w35 hB hz1 hk1 hS => ?_)
    obtain ⟨hP1, hD1⟩ := hB
    rw [ht] at hP1
    obtain ⟨hP, hD⟩ := va_join (wr := []) (w1 := [(hm, .inr (12, [.int cd, .ref (ma 1), (fv 2), (fv 3), .ref (ma 4), (fv 5), (fv 6), (fv 7), (fv 8), (fv 9), (fv 10), (fv 11), (fv 12), (fv 13), (fv 14), .int 1, (fv 16), .ref (ma 17), .ref (ma 18), .ref (ma 19), .ref (ma 20), .ref (ma 21), .ref (ma 22), .ref (ma 23), .ref (ma 24), .ref (ma 25), .ref (ma 26), .ref (ma 27), .ref (ma 28), .ref (ma 29), .ref (ma 30), .ref (ma 31), .ref (ma 32), .ref (ma 33), .ref (ma 34), .ref (ma 35), .ref (ma 36), .ref (ma 37), .ref (ma 38), .ref (ma 39), .ref (ma 40), .ref (ma 41), .ref (ma 42), .ref (ma 43), .ref (ma 44), .ref (ma 45), .ref (ma 46), .ref (ma 47), .ref (ma 48), (fv 49), (fv 50), (fv 51), (fv 52), (fv 53), (fv 54), (fv 55), (fv 56), (fv 57), (fv 58), .ref (ma 59), .ref (ma 60), (fv 61), (fv 62), .int (nI 1), .int (nI 1), .int 0, .int rv, .ref (ma 67), .ref (ma 68), .ref (ma 69), .int 1, (fv 71), .int (nI 0), .ref (ma 73)])), ((ma 39), .inl (cy 1, 3400, .inl kf)), ((ma 40), .inl (cy 1, 3400, .inl af)), ((ma 46), .inl (cy 2, 3400, .inr (.inl nf))), ((ma 23), .inl (cy 1, 16, .inl tm)), ((ma 24), .inl (cy 1, 128, .inl mkf)), ((ma 25), .inl (cy 2, 128, .inr (.inl mnf))), ((ma 29), .inl (cy 1, 128, .inl mbf)), ((ma 68), .inl (cy 1, 210, .inl ttf)), ((ma 17), .inl (cy 1, 2, .inl ym)), ((ma 30), .inl (cy 1, 128, .inl mpf)), ((ma 59), .inl (cy 1, 16, .inl tsf)), ((ma 22), .inl (cy 1, 16, .inl tuf)), ((ma 37), .inl (cy 1, 128, .inl mtf)), ((ma 33), .inl (cy 1, 128, .inl mlf)), ((ma 69), .inl (cy 1, 13440, .inl ccf)), ((ma 67), .inl (cy 1, 78, .inl f15))]) hP hD [0, 1, 2, 3, 4, 5, 6, 7, 8, 9, 10, 11, 12, 13, 14, 15, 16] [] rfl rfl (by decide) (by decide) hk1 hFc hP1 hD1
    generalize H1 = H at hP hS ⊢
    have hP : va_P D vwCl [(hm, .inr (12, [.int cd, .ref (ma 1), (fv 2), (fv 3), .ref (ma 4), (fv 5), (fv 6), (fv 7), (fv 8), (fv 9), (fv 10), (fv 11), (fv 12), (fv 13), (fv 14), .int 1, (fv 16), .ref (ma 17), .ref (ma 18), .ref (ma 19), .ref (ma 20), .ref (ma 21), .ref (ma 22), .ref (ma 23), .ref (ma 24), .ref (ma 25), .ref (ma 26), .ref (ma 27), .ref (ma 28), .ref (ma 29), .ref (ma 30), .ref (ma 31), .ref (ma 32), .ref (ma 33), .ref (ma 34), .ref (ma 35), .ref (ma 36), .ref (ma 37), .ref (ma 38), .ref (ma 39), .ref (ma 40), .ref (ma 41), .ref (ma 42), .ref (ma 43), .ref (ma 44), .ref (ma 45), .ref (ma 46), .ref (ma 47), .ref (ma 48), (fv 49), (fv 50), (fv 51), (fv 52), (fv 53), (fv 54), (fv 55), (fv 56), (fv 57), (fv 58), .ref (ma 59), .ref (ma 60), (fv 61), (fv 62), .int (nI 1), .int (nI 1), .int 0, .int rv, .ref (ma 67), .ref (ma 68), .ref (ma 69), .int 1, (fv 71), .int (nI 0), .ref (ma 73)])), ((ma 39), .inl (cy 1, 3400, .inl kf)), ((ma 40), .inl (cy 1, 3400, .inl af)), ((ma 46), .inl (cy 2, 3400, .inr (.inl nf))), ((ma 23), .inl (cy 1, 16, .inl tm)), ((ma 24), .inl (cy 1, 128, .inl mkf)), ((ma 25), .inl (cy 2, 128, .inr (.inl mnf))), ((ma 29), .inl (cy 1, 128, .inl mbf)), ((ma 68), .inl (cy 1, 210, .inl ttf)), ((ma 17), .inl (cy 1, 2, .inl ym)), ((ma 30), .inl (cy 1, 128, .inl mpf)), ((ma 59), .inl (cy 1, 16, .inl tsf)), ((ma 22), .inl (cy 1, 16, .inl tuf)), ((ma 37), .inl (cy 1, 128, .inl mtf)), ((ma 33), .inl (cy 1, 128, .inl mlf)), ((ma 69), .inl (cy 1, 13440, .inl ccf)), ((ma 67), .inl (cy 1, 78, .inl f15))] H := hP
    have hD : va_D A [(hm, .inr (12, [.int cd, .ref (ma 1), (fv 2), (fv 3), .ref (ma 4), (fv 5), (fv 6), (fv 7), (fv 8), (fv 9), (fv 10), (fv 11), (fv 12), (fv 13), (fv 14), .int 1, (fv 16), .ref (ma 17), .ref (ma 18), .ref (ma 19), .ref (ma 20), .ref (ma 21), .ref (ma 22), .ref (ma 23), .ref (ma 24), .ref (ma 25), .ref (ma 26), .ref (ma 27), .ref (ma 28), .ref (ma 29), .ref (ma 30), .ref (ma 31), .ref (ma 32), .ref (ma 33), .ref (ma 34), .ref (ma 35), .ref (ma 36), .ref (ma 37), .ref (ma 38), .ref (ma 39), .ref (ma 40), .ref (ma 41), .ref (ma 42), .ref (ma 43), .ref (ma 44), .ref (ma 45), .ref (ma 46), .ref (ma 47), .ref (ma 48), (fv 49), (fv 50), (fv 51), (fv 52), (fv 53), (fv 54), (fv 55), (fv 56), (fv 57), (fv 58), .ref (ma 59), .ref (ma 60), (fv 61), (fv 62), .int (nI 1), .int (nI 1), .int 0, .int rv, .ref (ma 67), .ref (ma 68), .ref (ma 69), .int 1, (fv 71), .int (nI 0), .ref (ma 73)])), ((ma 39), .inl (cy 1, 3400, .inl kf)), ((ma 40), .inl (cy 1, 3400, .inl af)), ((ma 46), .inl (cy 2, 3400, .inr (.inl nf))), ((ma 23), .inl (cy 1, 16, .inl tm)), ((ma 24), .inl (cy 1, 128, .inl mkf)), ((ma 25), .inl (cy 2, 128, .inr (.inl mnf))), ((ma 29), .inl (cy 1, 128, .inl mbf)), ((ma 68), .inl (cy 1, 210, .inl ttf)), ((ma 17), .inl (cy 1, 2, .inl ym)), ((ma 30), .inl (cy 1, 128, .inl mpf)), ((ma 59), .inl (cy 1, 16, .inl tsf)), ((ma 22), .inl (cy 1, 16, .inl tuf)), ((ma 37), .inl (cy 1, 128, .inl mtf)), ((ma 33), .inl (cy 1, 128, .inl mlf)), ((ma 69), .inl (cy 1, 13440, .inl ccf)), ((ma 67), .inl (cy 1, 78, .inl f15))] := hD
    have hP : va_P D vwCl [(hm, .inr (12, [.int cd, .ref (ma 1), (fv 2), (fv 3), .ref (ma 4), (fv 5), (fv 6), (fv 7), (fv 8), (fv 9), (fv 10), (fv 11), (fv 12), (fv 13), (fv 14), .int 1, (fv 16), .ref (ma 17), .ref (ma 18), .ref (ma 19), .ref (ma 20), .ref (ma 21), .ref (ma 22), .ref (ma 23), .ref (ma 24), .ref (ma 25), .ref (ma 26), .ref (ma 27), .ref (ma 28), .ref (ma 29), .ref (ma 30), .ref (ma 31), .ref (ma 32), .ref (ma 33), .ref (ma 34), .ref (ma 35), .ref (ma 36), .ref (ma 37), .ref (ma 38), .ref (ma 39), .ref (ma 40), .ref (ma 41), .ref (ma 42), .ref (ma 43), .ref (ma 44), .ref (ma 45), .ref (ma 46), .ref (ma 47), .ref (ma 48), (fv 49), (fv 50), (fv 51), (fv 52), (fv 53), (fv 54), (fv 55), (fv 56), (fv 57), (fv 58), .ref (ma 59), .ref (ma 60), (fv 61), (fv 62), .int (nI 1), .int (nI 1), .int 0, .int rv, .ref (ma 67), .ref (ma 68), .ref (ma 69), .int 1, (fv 71), .int (nI 0), .ref (ma 73)])), ((ma 39), .inl (cy 1, 3400, .inl kf)), ((ma 40), .inl (cy 1, 3400, .inl af)), ((ma 46), .inl (cy 2, 3400, .inr (.inl nf))), ((ma 23), .inl (cy 1, 16, .inl tm)), ((ma 24), .inl (cy 1, 128, .inl mkf)), ((ma 25), .inl (cy 2, 128, .inr (.inl mnf))), ((ma 29), .inl (cy 1, 128, .inl mbf)), ((ma 68), .inl (cy 1, 210, .inl ttf)), ((ma 17), .inl (cy 1, 2, .inl ym)), ((ma 30), .inl (cy 1, 128, .inl mpf)), ((ma 59), .inl (cy 1, 16, .inl tsf)), ((ma 22), .inl (cy 1, 16, .inl tuf)), ((ma 37), .inl (cy 1, 128, .inl mtf)), ((ma 33), .inl (cy 1, 128, .inl mlf)), ((ma 69), .inl (cy 1, 13440, .inl ccf)), ((ma 67), .inl (cy 1, 78, .inl f15))] H := hP
    have hD : va_D A [(hm, .inr (12, [.int cd, .ref (ma 1), (fv 2), (fv 3), .ref (ma 4), (fv 5), (fv 6), (fv 7), (fv 8), (fv 9), (fv 10), (fv 11), (fv 12), (fv 13), (fv 14), .int 1, (fv 16), .ref (ma 17), .ref (ma 18), .ref (ma 19), .ref (ma 20), .ref (ma 21), .ref (ma 22), .ref (ma 23), .ref (ma 24), .ref (ma 25), .ref (ma 26), .ref (ma 27), .ref (ma 28), .ref (ma 29), .ref (ma 30), .ref (ma 31), .ref (ma 32), .ref (ma 33), .ref (ma 34), .ref (ma 35), .ref (ma 36), .ref (ma 37), .ref (ma 38), .ref (ma 39), .ref (ma 40), .ref (ma 41), .ref (ma 42), .ref (ma 43), .ref (ma 44), .ref (ma 45), .ref (ma 46), .ref (ma 47), .ref (ma 48), (fv 49), (fv 50), (fv 51), (fv 52), (fv 53), (fv 54), (fv 55), (fv 56), (fv 57), (fv 58), .ref (ma 59), .ref (ma 60), (fv 61), (fv 62), .int (nI 1), .int (nI 1), .int 0, .int rv, .ref (ma 67), .ref (ma 68), .ref (ma 69), .int 1, (fv 71), .int (nI 0), .ref (ma 73)])), ((ma 39), .inl (cy 1, 3400, .inl kf)), ((ma 40), .inl (cy 1, 3400, .inl af)), ((ma 46), .inl (cy 2, 3400, .inr (.inl nf))), ((ma 23), .inl (cy 1, 16, .inl tm)), ((ma 24), .inl (cy 1, 128, .inl mkf)), ((ma 25), .inl (cy 2, 128, .inr (.inl mnf))), ((ma 29), .inl (cy 1, 128, .inl mbf)), ((ma 68), .inl (cy 1, 210, .inl ttf)), ((ma 17), .inl (cy 1, 2, .inl ym)), ((ma 30), .inl (cy 1, 128, .inl mpf)), ((ma 59), .inl (cy 1, 16, .inl tsf)), ((ma 22), .inl (cy 1, 16, .inl tuf)), ((ma 37), .inl (cy 1, 128, .inl mtf)), ((ma 33), .inl (cy 1, 128, .inl mlf)), ((ma 69), .inl (cy 1, 13440, .inl ccf)), ((ma 67), .inl (cy 1, 78, .inl f15))] := hD
    refine lv_iinc (v := 2) (lv' := [(10, .int 2), (9, .int 0), (8, .int 2000), (7, .int 8), (6, .int 1), (5, .int 1), (0, .ref hm), (1, .int 65), (2, .int 0), (3, .int 0), (4, .int 0)]) hx hb dX12_lead_241 hl (k := 0) rfl (by decide) (by decide) rfl (fun ls hl => ?_)
    refine lv_goto (tgt := 203) hx hb dX12_lead_244 (by decide) ?_
    refine lv_iload hx hb dX12_lead_203 (lv_at hl 0 rfl) ?_
    refine lv_aload_n hx hb dX12_lead_205 rfl (lv_at hl 6 rfl) ?_
    refine va_get (D := D) (ci := 12) (v := .ref (ma 23)) (C := RX12) (T := TX12) (N := 74) hx hb hT i_TX12 hown hK hP 0 rfl rfl 23 (by decide) (hT _ t_1738) (fun _ h9 => h9) rfl dX12_lead_206 ?_
    refine lv_iload hx hb dX12_lead_209 (lv_at hl 3 rfl) ?_
    refine va_iald hx hb hK hP 4 1 rfl rfl (vp_in_iff.mpr (by decide)) dX12_lead_211 ?_
    refine lv_topi (fun z36 e37 => ?_)
    obtain rfl : z36 = 2 := e37.trans ktm
    refine lv_icmp_ge (tgt := 247) hx hb dX12_lead_212 (by decide) (fun _ => ?_) (fun c9 => absurd (by decide) c9)
    refine lv_aload_n hx hb dX12_lead_247 rfl (lv_at hl 6 rfl) ?_
    refine va_get (D := D) (ci := 12) (v := .int 0) (C := RX12) (T := TX12) (N := 74) hx hb hT i_TX12 hown hK hP 0 rfl rfl 65 (by decide) (hT _ t_1780) (fun _ h9 => h9) rfl dX12_lead_248 ?_
    refine lv_if_ne (tgt := 273) hx hb dX12_lead_251 (by decide) (fun c9 => absurd (by decide) c9) (fun _ => ?_)
    refine lv_iload hx hb dX12_lead_254 (lv_at hl 4 rfl) ?_
    refine lv_if_eq (tgt := 273) hx hb dX12_lead_256 (by decide) (fun c9 => absurd c9 (by decide)) (fun _ => ?_)
    refine lv_aload_n hx hb dX12_lead_259 rfl (lv_at hl 6 rfl) ?_
    refine lv_aload_n hx hb dX12_lead_260 rfl (lv_at hl 6 rfl) ?_
    refine va_get (D := D) (ci := 12) (v := .ref (ma 29)) (C := RX12) (T := TX12) (N := 74) hx hb hT i_TX12 hown hK hP 0 rfl rfl 29 (by decide) (hT _ t_1744) (fun _ h9 => h9) rfl dX12_lead_261 ?_
    refine lv_iload_n hx hb dX12_lead_264 rfl (lv_at hl 7 rfl) ?_
    refine va_iald hx hb hK hP 7 1 rfl rfl (vp_in_iff.mpr (by decide)) dX12_lead_265 ?_
    refine lv_topi (fun z38 e39 => ?_)
    obtain rfl : z38 = (nI mb) := e39.trans kmb
    refine lv_iload hx hb dX12_lead_266 (lv_at hl 5 rfl) ?_
    have hPc := hP.sub (ws' := [(hm, .inr (12, [.int cd, .ref (ma 1), (fv 2), (fv 3), .ref (ma 4), (fv 5), (fv 6), (fv 7), (fv 8), (fv 9), (fv 10), (fv 11), (fv 12), (fv 13), (fv 14), .int 1, (fv 16), .ref (ma 17), .ref (ma 18), .ref (ma 19), .ref (ma 20), .ref (ma 21), .ref (ma 22), .ref (ma 23), .ref (ma 24), .ref (ma 25), .ref (ma 26), .ref (ma 27), .ref (ma 28), .ref (ma 29), .ref (ma 30), .ref (ma 31), .ref (ma 32), .ref (ma 33), .ref (ma 34), .ref (ma 35), .ref (ma 36), .ref (ma 37), .ref (ma 38), .ref (ma 39), .ref (ma 40), .ref (ma 41), .ref (ma 42), .ref (ma 43), .ref (ma 44), .ref (ma 45), .ref (ma 46), .ref (ma 47), .ref (ma 48), (fv 49), (fv 50), (fv 51), (fv 52), (fv 53), (fv 54), (fv 55), (fv 56), (fv 57), (fv 58), .ref (ma 59), .ref (ma 60), (fv 61), (fv 62), .int (nI 1), .int (nI 1), .int 0, .int rv, .ref (ma 67), .ref (ma 68), .ref (ma 69), .int 1, (fv 71), .int (nI 0), .ref (ma 73)])), ((ma 39), .inl (cy 1, 3400, .inl kf)), ((ma 40), .inl (cy 1, 3400, .inl af)), ((ma 46), .inl (cy 2, 3400, .inr (.inl nf))), ((ma 23), .inl (cy 1, 16, .inl tm)), ((ma 24), .inl (cy 1, 128, .inl mkf)), ((ma 25), .inl (cy 2, 128, .inr (.inl mnf))), ((ma 29), .inl (cy 1, 128, .inl mbf)), ((ma 68), .inl (cy 1, 210, .inl ttf))]) [0, 1, 2, 3, 4, 5, 6, 7, 8] rfl
    have hDc := hD.sub (ws' := [(hm, .inr (12, [.int cd, .ref (ma 1), (fv 2), (fv 3), .ref (ma 4), (fv 5), (fv 6), (fv 7), (fv 8), (fv 9), (fv 10), (fv 11), (fv 12), (fv 13), (fv 14), .int 1, (fv 16), .ref (ma 17), .ref (ma 18), .ref (ma 19), .ref (ma 20), .ref (ma 21), .ref (ma 22), .ref (ma 23), .ref (ma 24), .ref (ma 25), .ref (ma 26), .ref (ma 27), .ref (ma 28), .ref (ma 29), .ref (ma 30), .ref (ma 31), .ref (ma 32), .ref (ma 33), .ref (ma 34), .ref (ma 35), .ref (ma 36), .ref (ma 37), .ref (ma 38), .ref (ma 39), .ref (ma 40), .ref (ma 41), .ref (ma 42), .ref (ma 43), .ref (ma 44), .ref (ma 45), .ref (ma 46), .ref (ma 47), .ref (ma 48), (fv 49), (fv 50), (fv 51), (fv 52), (fv 53), (fv 54), (fv 55), (fv 56), (fv 57), (fv 58), .ref (ma 59), .ref (ma 60), (fv 61), (fv 62), .int (nI 1), .int (nI 1), .int 0, .int rv, .ref (ma 67), .ref (ma 68), .ref (ma 69), .int 1, (fv 71), .int (nI 0), .ref (ma 73)])), ((ma 39), .inl (cy 1, 3400, .inl kf)), ((ma 40), .inl (cy 1, 3400, .inl af)), ((ma 46), .inl (cy 2, 3400, .inr (.inl nf))), ((ma 23), .inl (cy 1, 16, .inl tm)), ((ma 24), .inl (cy 1, 128, .inl mkf)), ((ma 25), .inl (cy 2, 128, .inr (.inl mnf))), ((ma 29), .inl (cy 1, 128, .inl mbf)), ((ma 68), .inl (cy 1, 210, .inl ttf))]) [0, 1, 2, 3, 4, 5, 6, 7, 8] (by decide) rfl
    exact va_dieV  (As := [.int (nI mb), .int (nI 1)]) (rest := []) ⟨hx, hb, hml, hown, hT⟩ (fun k h9 => hN k h9 H.size) (cwV 2 hT (gTBV t_2201 t_2203 t_128 t_153 t_2204) rfl rfl rfl (by decide +kernel) ⟨by decide, by decide⟩) ⟨fun a U g mk q => by obtain ⟨q0, q1, qP, qK, qD⟩ := q; exact ⟨q0, q1, qP, va_K.moved (u := U) (U := U.calling g mk a) (Vm.Alike.refl U.vm) qK, qD⟩, va_recv hK hP (ci := 12) (q0 := 0) rfl rfl, fun U hU hW => ⟨rfl, by rw [hU], by rw [hU]; exact hPc, va_K.moved hW.alike hK, hDc.weaken (fun _ _ _ _ => trivial)⟩⟩ hex hmc hlocks htg rfl rfl hl.1 rfl (lv_room (Nat.le_of_ble_eq_true rfl)) dX12_lead_268 rfl rfl (Nat.le_of_ble_eq_true rfl) (Nat.le_of_ble_eq_true rfl)

set_option maxHeartbeats 4000000 in
set_option maxRecDepth 100000 in
theorem e_makes (l : Launch) (D : va_G) (cy : Nat → ClassId) (sz : Nat) (hm : Nat) (ma : Nat → Nat) (fv : Nat → Value) (kf : Nat → Int32) (af : Nat → Int32) (nf : Nat → Int64) (tm : Nat → Int32) (mkf : Nat → Int32) (mnf : Nat → Int64) (mbf : Nat → Int32) (ttf : Nat → Int32) (kn : Nat → Nat) (nn : Nat) (se : Nat) (tt : Nat) (bb : Nat) (ss : Nat) (nm : Int64) (st : Nat) (dp : Nat) (rv : Int32) (cd : Int32) (md : Int32) (hf : Int32) (mb : Nat) (ms : Nat) (mx : Nat) (ym : Nat → Int32) (mpf : Nat → Int32) (tsf : Nat → Int32) (tuf : Nat → Int32) (mtf : Nat → Int32) (mlf : Nat → Int32) (ccf : Nat → Int32) (prf : Nat → Int32) (d : Nat) (hk : Mk kf af nf tm mkf mbf ym mpf tuf mtf mlf nm mb ms mx) (hts0 : tsf 8 = 0) (hN : ∀ k, d = k + 1 → ∀ (sz : Nat) (ts2 cc2 tt2 : Nat → Int32), tt2 0 = 8 → Dies l yX12_lead (.code yX12_lead cX12_lead 11 none :: TB) k (va_Pc [.ref hm, .int 65, .int 0, .int 0, .int 0] (fun U => U.heap.size = sz ∧ va_P D vwCl [(hm, .inr (12, [.int cd, .ref (ma 1), (fv 2), (fv 3), .ref (ma 4), (fv 5), (fv 6), (fv 7), (fv 8), (fv 9), (fv 10), (fv 11), (fv 12), (fv 13), (fv 14), .int 1, (fv 16), .ref (ma 17), .ref (ma 18), .ref (ma 19), .ref (ma 20), .ref (ma 21), .ref (ma 22), .ref (ma 23), .ref (ma 24), .ref (ma 25), .ref (ma 26), .ref (ma 27), .ref (ma 28), .ref (ma 29), .ref (ma 30), .ref (ma 31), .ref (ma 32), .ref (ma 33), .ref (ma 34), .ref (ma 35), .ref (ma 36), .ref (ma 37), .ref (ma 38), .ref (ma 39), .ref (ma 40), .ref (ma 41), .ref (ma 42), .ref (ma 43), .ref (ma 44), .ref (ma 45), .ref (ma 46), .ref (ma 47), .ref (ma 48), (fv 49), (fv 50), (fv 51), (fv 52), (fv 53), (fv 54), (fv 55), (fv 56), (fv 57), (fv 58), .ref (ma 59), .ref (ma 60), (fv 61), (fv 62), .int (nI 1), .int (nI 0), .int 0, .int rv, .ref (ma 67), .ref (ma 68), .ref (ma 69), .int 1, (fv 71), .int (nI 0), .ref (ma 73)])), ((ma 39), .inl (cy 1, 3400, .inl kf)), ((ma 40), .inl (cy 1, 3400, .inl af)), ((ma 46), .inl (cy 2, 3400, .inr (.inl nf))), ((ma 23), .inl (cy 1, 16, .inl tm)), ((ma 24), .inl (cy 1, 128, .inl mkf)), ((ma 25), .inl (cy 2, 128, .inr (.inl mnf))), ((ma 29), .inl (cy 1, 128, .inl mbf)), ((ma 68), .inl (cy 1, 210, .inl tt2)), ((ma 17), .inl (cy 1, 2, .inl ym)), ((ma 30), .inl (cy 1, 128, .inl mpf)), ((ma 59), .inl (cy 1, 16, .inl ts2)), ((ma 22), .inl (cy 1, 16, .inl tuf)), ((ma 37), .inl (cy 1, 128, .inl mtf)), ((ma 33), .inl (cy 1, 128, .inl mlf)), ((ma 69), .inl (cy 1, 13440, .inl cc2)), ((ma 67), .inl (cy 1, 78, .inl prf))] U.heap ∧ va_K D vwCl (TY cy) U ∧ va_D (fun _ => True) [(hm, .inr (12, [.int cd, .ref (ma 1), (fv 2), (fv 3), .ref (ma 4), (fv 5), (fv 6), (fv 7), (fv 8), (fv 9), (fv 10), (fv 11), (fv 12), (fv 13), (fv 14), .int 1, (fv 16), .ref (ma 17), .ref (ma 18), .ref (ma 19), .ref (ma 20), .ref (ma 21), .ref (ma 22), .ref (ma 23), .ref (ma 24), .ref (ma 25), .ref (ma 26), .ref (ma 27), .ref (ma 28), .ref (ma 29), .ref (ma 30), .ref (ma 31), .ref (ma 32), .ref (ma 33), .ref (ma 34), .ref (ma 35), .ref (ma 36), .ref (ma 37), .ref (ma 38), .ref (ma 39), .ref (ma 40), .ref (ma 41), .ref (ma 42), .ref (ma 43), .ref (ma 44), .ref (ma 45), .ref (ma 46), .ref (ma 47), .ref (ma 48), (fv 49), (fv 50), (fv 51), (fv 52), (fv 53), (fv 54), (fv 55), (fv 56), (fv 57), (fv 58), .ref (ma 59), .ref (ma 60), (fv 61), (fv 62), .int (nI 1), .int (nI 0), .int 0, .int rv, .ref (ma 67), .ref (ma 68), .ref (ma 69), .int 1, (fv 71), .int (nI 0), .ref (ma 73)])), ((ma 39), .inl (cy 1, 3400, .inl kf)), ((ma 40), .inl (cy 1, 3400, .inl af)), ((ma 46), .inl (cy 2, 3400, .inr (.inl nf))), ((ma 23), .inl (cy 1, 16, .inl tm)), ((ma 24), .inl (cy 1, 128, .inl mkf)), ((ma 25), .inl (cy 2, 128, .inr (.inl mnf))), ((ma 29), .inl (cy 1, 128, .inl mbf)), ((ma 68), .inl (cy 1, 210, .inl tt2)), ((ma 17), .inl (cy 1, 2, .inl ym)), ((ma 30), .inl (cy 1, 128, .inl mpf)), ((ma 59), .inl (cy 1, 16, .inl ts2)), ((ma 22), .inl (cy 1, 16, .inl tuf)), ((ma 37), .inl (cy 1, 128, .inl mtf)), ((ma 33), .inl (cy 1, 128, .inl mlf)), ((ma 69), .inl (cy 1, 13440, .inl cc2)), ((ma 67), .inl (cy 1, 78, .inl prf))]))) : Dies l yX12_makes (.code yX12_makes cX12_makes 8 (some .int) :: TB) d (va_Pc [.ref hm, .int 8, .int 65, .int 0, .int 0, .int 0] (fun U => U.heap.size = sz ∧ va_P D vwCl [(hm, .inr (12, [.int cd, .ref (ma 1), (fv 2), (fv 3), .ref (ma 4), (fv 5), (fv 6), (fv 7), (fv 8), (fv 9), (fv 10), (fv 11), (fv 12), (fv 13), (fv 14), .int 1, (fv 16), .ref (ma 17), .ref (ma 18), .ref (ma 19), .ref (ma 20), .ref (ma 21), .ref (ma 22), .ref (ma 23), .ref (ma 24), .ref (ma 25), .ref (ma 26), .ref (ma 27), .ref (ma 28), .ref (ma 29), .ref (ma 30), .ref (ma 31), .ref (ma 32), .ref (ma 33), .ref (ma 34), .ref (ma 35), .ref (ma 36), .ref (ma 37), .ref (ma 38), .ref (ma 39), .ref (ma 40), .ref (ma 41), .ref (ma 42), .ref (ma 43), .ref (ma 44), .ref (ma 45), .ref (ma 46), .ref (ma 47), .ref (ma 48), (fv 49), (fv 50), (fv 51), (fv 52), (fv 53), (fv 54), (fv 55), (fv 56), (fv 57), (fv 58), .ref (ma 59), .ref (ma 60), (fv 61), (fv 62), .int (nI 0), .int (nI 0), .int 0, .int rv, .ref (ma 67), .ref (ma 68), .ref (ma 69), .int 0, (fv 71), .int (nI 0), .ref (ma 73)])), ((ma 39), .inl (cy 1, 3400, .inl kf)), ((ma 40), .inl (cy 1, 3400, .inl af)), ((ma 46), .inl (cy 2, 3400, .inr (.inl nf))), ((ma 23), .inl (cy 1, 16, .inl tm)), ((ma 24), .inl (cy 1, 128, .inl mkf)), ((ma 25), .inl (cy 2, 128, .inr (.inl mnf))), ((ma 29), .inl (cy 1, 128, .inl mbf)), ((ma 68), .inl (cy 1, 210, .inl ttf)), ((ma 17), .inl (cy 1, 2, .inl ym)), ((ma 30), .inl (cy 1, 128, .inl mpf)), ((ma 59), .inl (cy 1, 16, .inl tsf)), ((ma 22), .inl (cy 1, 16, .inl tuf)), ((ma 37), .inl (cy 1, 128, .inl mtf)), ((ma 33), .inl (cy 1, 128, .inl mlf)), ((ma 69), .inl (cy 1, 13440, .inl ccf)), ((ma 67), .inl (cy 1, 78, .inl prf))] U.heap ∧ va_K D vwCl (TY cy) U ∧ va_D (fun _ => True) [(hm, .inr (12, [.int cd, .ref (ma 1), (fv 2), (fv 3), .ref (ma 4), (fv 5), (fv 6), (fv 7), (fv 8), (fv 9), (fv 10), (fv 11), (fv 12), (fv 13), (fv 14), .int 1, (fv 16), .ref (ma 17), .ref (ma 18), .ref (ma 19), .ref (ma 20), .ref (ma 21), .ref (ma 22), .ref (ma 23), .ref (ma 24), .ref (ma 25), .ref (ma 26), .ref (ma 27), .ref (ma 28), .ref (ma 29), .ref (ma 30), .ref (ma 31), .ref (ma 32), .ref (ma 33), .ref (ma 34), .ref (ma 35), .ref (ma 36), .ref (ma 37), .ref (ma 38), .ref (ma 39), .ref (ma 40), .ref (ma 41), .ref (ma 42), .ref (ma 43), .ref (ma 44), .ref (ma 45), .ref (ma 46), .ref (ma 47), .ref (ma 48), (fv 49), (fv 50), (fv 51), (fv 52), (fv 53), (fv 54), (fv 55), (fv 56), (fv 57), (fv 58), .ref (ma 59), .ref (ma 60), (fv 61), (fv 62), .int (nI 0), .int (nI 0), .int 0, .int rv, .ref (ma 67), .ref (ma 68), .ref (ma 69), .int 0, (fv 71), .int (nI 0), .ref (ma 73)])), ((ma 39), .inl (cy 1, 3400, .inl kf)), ((ma 40), .inl (cy 1, 3400, .inl af)), ((ma 46), .inl (cy 2, 3400, .inr (.inl nf))), ((ma 23), .inl (cy 1, 16, .inl tm)), ((ma 24), .inl (cy 1, 128, .inl mkf)), ((ma 25), .inl (cy 2, 128, .inr (.inl mnf))), ((ma 29), .inl (cy 1, 128, .inl mbf)), ((ma 68), .inl (cy 1, 210, .inl ttf)), ((ma 17), .inl (cy 1, 2, .inl ym)), ((ma 30), .inl (cy 1, 128, .inl mpf)), ((ma 59), .inl (cy 1, 16, .inl tsf)), ((ma 22), .inl (cy 1, 16, .inl tuf)), ((ma 37), .inl (cy 1, 128, .inl mtf)), ((ma 33), .inl (cy 1, 128, .inl mlf)), ((ma 69), .inl (cy 1, 13440, .inl ccf)), ((ma 67), .inl (cy 1, 78, .inl prf))])) := by
  refine Dies.ofW (cc := cX12_makes) (maxL := 8) (ret := (some .int)) (by decide) rfl ?_
  intro p e s m args below meth c s₁ B hml hex hmc htg hv
  obtain ⟨rfl, hsz, hP, hK, hD0⟩ := hv
  have hx := B.exec
  have hb := B.bytes
  have hr := B.returns
  have hts := atoms_spec (ws := .code yX12_makes cX12_makes 8 (some .int) :: TB) B.pre
  have hT : ∀ w ∈ TB, w.before _ s = true := fun w h => hts w (List.mem_cons_of_mem _ h)
  have hown : s.vm.findClass "MakerStartsModel" = some m.cls := findClass_of_methodNamed B.named
  have hlocks := B.notSynchronized
  subst hsz
  have hD := hD0.self (sz := s.heap.size)
  generalize hAe : va_A [(hm, .inr (12, [.int cd, .ref (ma 1), (fv 2), (fv 3), .ref (ma 4), (fv 5), (fv 6), (fv 7), (fv 8), (fv 9), (fv 10), (fv 11), (fv 12), (fv 13), (fv 14), .int 1, (fv 16), .ref (ma 17), .ref (ma 18), .ref (ma 19), .ref (ma 20), .ref (ma 21), .ref (ma 22), .ref (ma 23), .ref (ma 24), .ref (ma 25), .ref (ma 26), .ref (ma 27), .ref (ma 28), .ref (ma 29), .ref (ma 30), .ref (ma 31), .ref (ma 32), .ref (ma 33), .ref (ma 34), .ref (ma 35), .ref (ma 36), .ref (ma 37), .ref (ma 38), .ref (ma 39), .ref (ma 40), .ref (ma 41), .ref (ma 42), .ref (ma 43), .ref (ma 44), .ref (ma 45), .ref (ma 46), .ref (ma 47), .ref (ma 48), (fv 49), (fv 50), (fv 51), (fv 52), (fv 53), (fv 54), (fv 55), (fv 56), (fv 57), (fv 58), .ref (ma 59), .ref (ma 60), (fv 61), (fv 62), .int (nI 0), .int (nI 0), .int 0, .int rv, .ref (ma 67), .ref (ma 68), .ref (ma 69), .int 0, (fv 71), .int (nI 0), .ref (ma 73)])), ((ma 39), .inl (cy 1, 3400, .inl kf)), ((ma 40), .inl (cy 1, 3400, .inl af)), ((ma 46), .inl (cy 2, 3400, .inr (.inl nf))), ((ma 23), .inl (cy 1, 16, .inl tm)), ((ma 24), .inl (cy 1, 128, .inl mkf)), ((ma 25), .inl (cy 2, 128, .inr (.inl mnf))), ((ma 29), .inl (cy 1, 128, .inl mbf)), ((ma 68), .inl (cy 1, 210, .inl ttf)), ((ma 17), .inl (cy 1, 2, .inl ym)), ((ma 30), .inl (cy 1, 128, .inl mpf)), ((ma 59), .inl (cy 1, 16, .inl tsf)), ((ma 22), .inl (cy 1, 16, .inl tuf)), ((ma 37), .inl (cy 1, 128, .inl mtf)), ((ma 33), .inl (cy 1, 128, .inl mlf)), ((ma 69), .inl (cy 1, 13440, .inl ccf)), ((ma 67), .inl (cy 1, 78, .inl prf))] s.heap.size = A at hD  ⊢
  have hA : ∀ q : Nat, s.heap.size ≤ q → A q := fun q h => by rw [← hAe]; exact Or.inr h
  have hS : va_S A s.heap s.heap [] := va_S.rf
  have hP : va_P D vwCl [(hm, .inr (12, [.int cd, .ref (ma 1), (fv 2), (fv 3), .ref (ma 4), (fv 5), (fv 6), (fv 7), (fv 8), (fv 9), (fv 10), (fv 11), (fv 12), (fv 13), (fv 14), .int 1, (fv 16), .ref (ma 17), .ref (ma 18), .ref (ma 19), .ref (ma 20), .ref (ma 21), .ref (ma 22), .ref (ma 23), .ref (ma 24), .ref (ma 25), .ref (ma 26), .ref (ma 27), .ref (ma 28), .ref (ma 29), .ref (ma 30), .ref (ma 31), .ref (ma 32), .ref (ma 33), .ref (ma 34), .ref (ma 35), .ref (ma 36), .ref (ma 37), .ref (ma 38), .ref (ma 39), .ref (ma 40), .ref (ma 41), .ref (ma 42), .ref (ma 43), .ref (ma 44), .ref (ma 45), .ref (ma 46), .ref (ma 47), .ref (ma 48), (fv 49), (fv 50), (fv 51), (fv 52), (fv 53), (fv 54), (fv 55), (fv 56), (fv 57), (fv 58), .ref (ma 59), .ref (ma 60), (fv 61), (fv 62), .int (nI 0), .int (nI 0), .int 0, .int rv, .ref (ma 67), .ref (ma 68), .ref (ma 69), .int 0, (fv 71), .int (nI 0), .ref (ma 73)])), ((ma 39), .inl (cy 1, 3400, .inl kf)), ((ma 40), .inl (cy 1, 3400, .inl af)), ((ma 46), .inl (cy 2, 3400, .inr (.inl nf))), ((ma 23), .inl (cy 1, 16, .inl tm)), ((ma 24), .inl (cy 1, 128, .inl mkf)), ((ma 25), .inl (cy 2, 128, .inr (.inl mnf))), ((ma 29), .inl (cy 1, 128, .inl mbf)), ((ma 68), .inl (cy 1, 210, .inl ttf)), ((ma 17), .inl (cy 1, 2, .inl ym)), ((ma 30), .inl (cy 1, 128, .inl mpf)), ((ma 59), .inl (cy 1, 16, .inl tsf)), ((ma 22), .inl (cy 1, 16, .inl tuf)), ((ma 37), .inl (cy 1, 128, .inl mtf)), ((ma 33), .inl (cy 1, 128, .inl mlf)), ((ma 69), .inl (cy 1, 13440, .inl ccf)), ((ma 67), .inl (cy 1, 78, .inl prf))] s.heap := hP
  have hl := lv_entry ([.ref hm, .int 8, .int 65, .int 0, .int 0, .int 0]) (n := 8) (Nat.le_of_ble_eq_true rfl)
  rw [lg_entry_eq]
  generalize (lg_sl ([.ref hm, .int 8, .int 65, .int 0, .int 0, .int 0]) ++ List.replicate (8 - (lg_sl ([.ref hm, .int 8, .int 65, .int 0, .int 0, .int 0])).length) Slot.unset).toArray = ls at hl ⊢
  have hl : lv_has ls 8 [(0, .ref hm), (1, .int 8), (2, .int 65), (3, .int 0), (4, .int 0), (5, .int 0)] := hl
  have hk0 := hk
  obtain ⟨kym, ktm, kk0, kk1, kmp, ktu, kmt, kml, kmb, kbb, kab, kss0, kss, kks, kas, kxx, kkx, knx⟩ := hk
  refine lv_aload_n hx hb dX12_makes_0 rfl (lv_at hl 0 rfl) ?_
  rcases Nat.eq_zero_or_pos d with rfl | hpos
  · exact va_dieV (Pc := fun _ _ => True) (ws := .code yX12_steps cX12_steps 1 (some .boolean) :: TB) (As := []) (rest := []) ⟨hx, hb, hml, hown, hT⟩ (fun k h9 => absurd h9 (by omega)) (cwV 0 hT (gTBV t_2181 t_2183 t_123 t_153 t_2184) rfl rfl rfl (by decide +kernel) ⟨by decide, by decide⟩) ⟨fun _ _ _ _ _ => trivial, va_recv hK hP (ci := 12) (q0 := 0) rfl rfl, fun _ _ _ => trivial⟩ hex hmc hlocks htg rfl rfl hl.1 rfl (lv_room (Nat.le_of_ble_eq_true rfl)) dX12_makes_1 rfl rfl (Nat.le_of_ble_eq_true rfl) (Nat.le_of_ble_eq_true rfl)
  · obtain ⟨k, rfl⟩ : ∃ k, d = k + 1 := ⟨d - 1, by omega⟩
    have hPc := hP.sub (ws' := [(hm, .inr (12, [.int cd, .ref (ma 1), (fv 2), (fv 3), .ref (ma 4), (fv 5), (fv 6), (fv 7), (fv 8), (fv 9), (fv 10), (fv 11), (fv 12), (fv 13), (fv 14), .int 1, (fv 16), .ref (ma 17), .ref (ma 18), .ref (ma 19), .ref (ma 20), .ref (ma 21), .ref (ma 22), .ref (ma 23), .ref (ma 24), .ref (ma 25), .ref (ma 26), .ref (ma 27), .ref (ma 28), .ref (ma 29), .ref (ma 30), .ref (ma 31), .ref (ma 32), .ref (ma 33), .ref (ma 34), .ref (ma 35), .ref (ma 36), .ref (ma 37), .ref (ma 38), .ref (ma 39), .ref (ma 40), .ref (ma 41), .ref (ma 42), .ref (ma 43), .ref (ma 44), .ref (ma 45), .ref (ma 46), .ref (ma 47), .ref (ma 48), (fv 49), (fv 50), (fv 51), (fv 52), (fv 53), (fv 54), (fv 55), (fv 56), (fv 57), (fv 58), .ref (ma 59), .ref (ma 60), (fv 61), (fv 62), .int (nI 0), .int (nI 0), .int 0, .int rv, .ref (ma 67), .ref (ma 68), .ref (ma 69), .int 0, (fv 71), .int (nI 0), .ref (ma 73)]))]) [0] rfl
    have hDc := hD.sub (ws' := [(hm, .inr (12, [.int cd, .ref (ma 1), (fv 2), (fv 3), .ref (ma 4), (fv 5), (fv 6), (fv 7), (fv 8), (fv 9), (fv 10), (fv 11), (fv 12), (fv 13), (fv 14), .int 1, (fv 16), .ref (ma 17), .ref (ma 18), .ref (ma 19), .ref (ma 20), .ref (ma 21), .ref (ma 22), .ref (ma 23), .ref (ma 24), .ref (ma 25), .ref (ma 26), .ref (ma 27), .ref (ma 28), .ref (ma 29), .ref (ma 30), .ref (ma 31), .ref (ma 32), .ref (ma 33), .ref (ma 34), .ref (ma 35), .ref (ma 36), .ref (ma 37), .ref (ma 38), .ref (ma 39), .ref (ma 40), .ref (ma 41), .ref (ma 42), .ref (ma 43), .ref (ma 44), .ref (ma 45), .ref (ma 46), .ref (ma 47), .ref (ma 48), (fv 49), (fv 50), (fv 51), (fv 52), (fv 53), (fv 54), (fv 55), (fv 56), (fv 57), (fv 58), .ref (ma 59), .ref (ma 60), (fv 61), (fv 62), .int (nI 0), .int (nI 0), .int 0, .int rv, .ref (ma 67), .ref (ma 68), .ref (ma 69), .int 0, (fv 71), .int (nI 0), .ref (ma 73)]))]) [0] (by decide) rfl
    have hFc := va_free (wc := [(hm, .inr (12, [.int cd, .ref (ma 1), (fv 2), (fv 3), .ref (ma 4), (fv 5), (fv 6), (fv 7), (fv 8), (fv 9), (fv 10), (fv 11), (fv 12), (fv 13), (fv 14), .int 1, (fv 16), .ref (ma 17), .ref (ma 18), .ref (ma 19), .ref (ma 20), .ref (ma 21), .ref (ma 22), .ref (ma 23), .ref (ma 24), .ref (ma 25), .ref (ma 26), .ref (ma 27), .ref (ma 28), .ref (ma 29), .ref (ma 30), .ref (ma 31), .ref (ma 32), .ref (ma 33), .ref (ma 34), .ref (ma 35), .ref (ma 36), .ref (ma 37), .ref (ma 38), .ref (ma 39), .ref (ma 40), .ref (ma 41), .ref (ma 42), .ref (ma 43), .ref (ma 44), .ref (ma 45), .ref (ma 46), .ref (ma 47), .ref (ma 48), (fv 49), (fv 50), (fv 51), (fv 52), (fv 53), (fv 54), (fv 55), (fv 56), (fv 57), (fv 58), .ref (ma 59), .ref (ma 60), (fv 61), (fv 62), .int (nI 0), .int (nI 0), .int 0, .int rv, .ref (ma 67), .ref (ma 68), .ref (ma 69), .int 0, (fv 71), .int (nI 0), .ref (ma 73)]))]) hD hS hA [0] rfl
    refine va_calli (va_runV (As := []) (rest := []) ⟨hx, hb, hml, hown, hT⟩ (d_steps l D cy s.heap.size hm ma fv kf af nf tm mkf mnf mbf ttf kn nn 0 tt bb ss nm 0 0 rv cd 0 1 (by decide)) (cwV 0 hT (gTBV t_2181 t_2183 t_123 t_153 t_2184) rfl rfl rfl (by decide +kernel) ⟨Nat.le_add_left 1 k, Nat.le_trans (m := 40) (Nat.le_of_ble_eq_true rfl) (by show 40 ≤ 40 * (k + 1); omega)⟩) ⟨fun a U g mk q => by obtain ⟨q0, q1, qP, qK, qD⟩ := q; exact ⟨q0, q1, qP, va_K.moved (u := U) (U := U.calling g mk a) (Vm.Alike.refl U.vm) qK, qD⟩, va_recv hK hPc (ci := 12) (q0 := 0) rfl rfl, fun U hU hW => ⟨rfl, by rw [hU], by rw [hU]; exact hPc, va_K.moved hW.alike hK, hDc.weaken (fun _ _ _ _ => trivial)⟩⟩ rfl rfl hl.1 rfl (lv_room (Nat.le_of_ble_eq_true rfl)) dX12_makes_1 ⟨Nat.le_of_ble_eq_true rfl, Nat.le_of_ble_eq_true rfl⟩) hS (fun q _ h => hFc q h) hFc (fun r1 u t H1 locs ht hvm w2 hB hz1 hk1 hS => ?_)
    obtain ⟨hP1, hD1⟩ := hB
    rw [ht] at hP1
    obtain ⟨hP, hD⟩ := va_join (wr := [((ma 39), .inl (cy 1, 3400, .inl kf)), ((ma 40), .inl (cy 1, 3400, .inl af)), ((ma 46), .inl (cy 2, 3400, .inr (.inl nf))), ((ma 23), .inl (cy 1, 16, .inl tm)), ((ma 24), .inl (cy 1, 128, .inl mkf)), ((ma 25), .inl (cy 2, 128, .inr (.inl mnf))), ((ma 29), .inl (cy 1, 128, .inl mbf)), ((ma 68), .inl (cy 1, 210, .inl ttf)), ((ma 17), .inl (cy 1, 2, .inl ym)), ((ma 30), .inl (cy 1, 128, .inl mpf)), ((ma 59), .inl (cy 1, 16, .inl tsf)), ((ma 22), .inl (cy 1, 16, .inl tuf)), ((ma 37), .inl (cy 1, 128, .inl mtf)), ((ma 33), .inl (cy 1, 128, .inl mlf)), ((ma 69), .inl (cy 1, 13440, .inl ccf)), ((ma 67), .inl (cy 1, 78, .inl prf))]) (w1 := [(hm, .inr (12, [.int cd, .ref (ma 1), (fv 2), (fv 3), .ref (ma 4), (fv 5), (fv 6), (fv 7), (fv 8), (fv 9), (fv 10), (fv 11), (fv 12), (fv 13), (fv 14), .int 1, (fv 16), .ref (ma 17), .ref (ma 18), .ref (ma 19), .ref (ma 20), .ref (ma 21), .ref (ma 22), .ref (ma 23), .ref (ma 24), .ref (ma 25), .ref (ma 26), .ref (ma 27), .ref (ma 28), .ref (ma 29), .ref (ma 30), .ref (ma 31), .ref (ma 32), .ref (ma 33), .ref (ma 34), .ref (ma 35), .ref (ma 36), .ref (ma 37), .ref (ma 38), .ref (ma 39), .ref (ma 40), .ref (ma 41), .ref (ma 42), .ref (ma 43), .ref (ma 44), .ref (ma 45), .ref (ma 46), .ref (ma 47), .ref (ma 48), (fv 49), (fv 50), (fv 51), (fv 52), (fv 53), (fv 54), (fv 55), (fv 56), (fv 57), (fv 58), .ref (ma 59), .ref (ma 60), (fv 61), (fv 62), .int (nI (0 + 1)), .int (nI 0), .int 0, .int rv, .ref (ma 67), .ref (ma 68), .ref (ma 69), .int 0, (fv 71), .int (nI 0), .ref (ma 73)]))]) hP hD [0] [1, 2, 3, 4, 5, 6, 7, 8, 9, 10, 11, 12, 13, 14, 15, 16] rfl rfl (by decide) (by decide) hk1 hFc hP1 hD1
    generalize H1 = H at hP hS ⊢
    have hP : va_P D vwCl [((ma 39), .inl (cy 1, 3400, .inl kf)), ((ma 40), .inl (cy 1, 3400, .inl af)), ((ma 46), .inl (cy 2, 3400, .inr (.inl nf))), ((ma 23), .inl (cy 1, 16, .inl tm)), ((ma 24), .inl (cy 1, 128, .inl mkf)), ((ma 25), .inl (cy 2, 128, .inr (.inl mnf))), ((ma 29), .inl (cy 1, 128, .inl mbf)), ((ma 68), .inl (cy 1, 210, .inl ttf)), ((ma 17), .inl (cy 1, 2, .inl ym)), ((ma 30), .inl (cy 1, 128, .inl mpf)), ((ma 59), .inl (cy 1, 16, .inl tsf)), ((ma 22), .inl (cy 1, 16, .inl tuf)), ((ma 37), .inl (cy 1, 128, .inl mtf)), ((ma 33), .inl (cy 1, 128, .inl mlf)), ((ma 69), .inl (cy 1, 13440, .inl ccf)), ((ma 67), .inl (cy 1, 78, .inl prf)), (hm, .inr (12, [.int cd, .ref (ma 1), (fv 2), (fv 3), .ref (ma 4), (fv 5), (fv 6), (fv 7), (fv 8), (fv 9), (fv 10), (fv 11), (fv 12), (fv 13), (fv 14), .int 1, (fv 16), .ref (ma 17), .ref (ma 18), .ref (ma 19), .ref (ma 20), .ref (ma 21), .ref (ma 22), .ref (ma 23), .ref (ma 24), .ref (ma 25), .ref (ma 26), .ref (ma 27), .ref (ma 28), .ref (ma 29), .ref (ma 30), .ref (ma 31), .ref (ma 32), .ref (ma 33), .ref (ma 34), .ref (ma 35), .ref (ma 36), .ref (ma 37), .ref (ma 38), .ref (ma 39), .ref (ma 40), .ref (ma 41), .ref (ma 42), .ref (ma 43), .ref (ma 44), .ref (ma 45), .ref (ma 46), .ref (ma 47), .ref (ma 48), (fv 49), (fv 50), (fv 51), (fv 52), (fv 53), (fv 54), (fv 55), (fv 56), (fv 57), (fv 58), .ref (ma 59), .ref (ma 60), (fv 61), (fv 62), .int (nI (0 + 1)), .int (nI 0), .int 0, .int rv, .ref (ma 67), .ref (ma 68), .ref (ma 69), .int 0, (fv 71), .int (nI 0), .ref (ma 73)]))] H := hP
    have hD : va_D A [((ma 39), .inl (cy 1, 3400, .inl kf)), ((ma 40), .inl (cy 1, 3400, .inl af)), ((ma 46), .inl (cy 2, 3400, .inr (.inl nf))), ((ma 23), .inl (cy 1, 16, .inl tm)), ((ma 24), .inl (cy 1, 128, .inl mkf)), ((ma 25), .inl (cy 2, 128, .inr (.inl mnf))), ((ma 29), .inl (cy 1, 128, .inl mbf)), ((ma 68), .inl (cy 1, 210, .inl ttf)), ((ma 17), .inl (cy 1, 2, .inl ym)), ((ma 30), .inl (cy 1, 128, .inl mpf)), ((ma 59), .inl (cy 1, 16, .inl tsf)), ((ma 22), .inl (cy 1, 16, .inl tuf)), ((ma 37), .inl (cy 1, 128, .inl mtf)), ((ma 33), .inl (cy 1, 128, .inl mlf)), ((ma 69), .inl (cy 1, 13440, .inl ccf)), ((ma 67), .inl (cy 1, 78, .inl prf)), (hm, .inr (12, [.int cd, .ref (ma 1), (fv 2), (fv 3), .ref (ma 4), (fv 5), (fv 6), (fv 7), (fv 8), (fv 9), (fv 10), (fv 11), (fv 12), (fv 13), (fv 14), .int 1, (fv 16), .ref (ma 17), .ref (ma 18), .ref (ma 19), .ref (ma 20), .ref (ma 21), .ref (ma 22), .ref (ma 23), .ref (ma 24), .ref (ma 25), .ref (ma 26), .ref (ma 27), .ref (ma 28), .ref (ma 29), .ref (ma 30), .ref (ma 31), .ref (ma 32), .ref (ma 33), .ref (ma 34), .ref (ma 35), .ref (ma 36), .ref (ma 37), .ref (ma 38), .ref (ma 39), .ref (ma 40), .ref (ma 41), .ref (ma 42), .ref (ma 43), .ref (ma 44), .ref (ma 45), .ref (ma 46), .ref (ma 47), .ref (ma 48), (fv 49), (fv 50), (fv 51), (fv 52), (fv 53), (fv 54), (fv 55), (fv 56), (fv 57), (fv 58), .ref (ma 59), .ref (ma 60), (fv 61), (fv 62), .int (nI (0 + 1)), .int (nI 0), .int 0, .int rv, .ref (ma 67), .ref (ma 68), .ref (ma 69), .int 0, (fv 71), .int (nI 0), .ref (ma 73)]))] := hD
    obtain rfl : r1 = 1 := w2
    have hP : va_P D vwCl [((ma 39), .inl (cy 1, 3400, .inl kf)), ((ma 40), .inl (cy 1, 3400, .inl af)), ((ma 46), .inl (cy 2, 3400, .inr (.inl nf))), ((ma 23), .inl (cy 1, 16, .inl tm)), ((ma 24), .inl (cy 1, 128, .inl mkf)), ((ma 25), .inl (cy 2, 128, .inr (.inl mnf))), ((ma 29), .inl (cy 1, 128, .inl mbf)), ((ma 68), .inl (cy 1, 210, .inl ttf)), ((ma 17), .inl (cy 1, 2, .inl ym)), ((ma 30), .inl (cy 1, 128, .inl mpf)), ((ma 59), .inl (cy 1, 16, .inl tsf)), ((ma 22), .inl (cy 1, 16, .inl tuf)), ((ma 37), .inl (cy 1, 128, .inl mtf)), ((ma 33), .inl (cy 1, 128, .inl mlf)), ((ma 69), .inl (cy 1, 13440, .inl ccf)), ((ma 67), .inl (cy 1, 78, .inl prf)), (hm, .inr (12, [.int cd, .ref (ma 1), (fv 2), (fv 3), .ref (ma 4), (fv 5), (fv 6), (fv 7), (fv 8), (fv 9), (fv 10), (fv 11), (fv 12), (fv 13), (fv 14), .int 1, (fv 16), .ref (ma 17), .ref (ma 18), .ref (ma 19), .ref (ma 20), .ref (ma 21), .ref (ma 22), .ref (ma 23), .ref (ma 24), .ref (ma 25), .ref (ma 26), .ref (ma 27), .ref (ma 28), .ref (ma 29), .ref (ma 30), .ref (ma 31), .ref (ma 32), .ref (ma 33), .ref (ma 34), .ref (ma 35), .ref (ma 36), .ref (ma 37), .ref (ma 38), .ref (ma 39), .ref (ma 40), .ref (ma 41), .ref (ma 42), .ref (ma 43), .ref (ma 44), .ref (ma 45), .ref (ma 46), .ref (ma 47), .ref (ma 48), (fv 49), (fv 50), (fv 51), (fv 52), (fv 53), (fv 54), (fv 55), (fv 56), (fv 57), (fv 58), .ref (ma 59), .ref (ma 60), (fv 61), (fv 62), .int (nI 1), .int (nI 0), .int 0, .int rv, .ref (ma 67), .ref (ma 68), .ref (ma 69), .int 0, (fv 71), .int (nI 0), .ref (ma 73)]))] H := hP
    have hD : va_D A [((ma 39), .inl (cy 1, 3400, .inl kf)), ((ma 40), .inl (cy 1, 3400, .inl af)), ((ma 46), .inl (cy 2, 3400, .inr (.inl nf))), ((ma 23), .inl (cy 1, 16, .inl tm)), ((ma 24), .inl (cy 1, 128, .inl mkf)), ((ma 25), .inl (cy 2, 128, .inr (.inl mnf))), ((ma 29), .inl (cy 1, 128, .inl mbf)), ((ma 68), .inl (cy 1, 210, .inl ttf)), ((ma 17), .inl (cy 1, 2, .inl ym)), ((ma 30), .inl (cy 1, 128, .inl mpf)), ((ma 59), .inl (cy 1, 16, .inl tsf)), ((ma 22), .inl (cy 1, 16, .inl tuf)), ((ma 37), .inl (cy 1, 128, .inl mtf)), ((ma 33), .inl (cy 1, 128, .inl mlf)), ((ma 69), .inl (cy 1, 13440, .inl ccf)), ((ma 67), .inl (cy 1, 78, .inl prf)), (hm, .inr (12, [.int cd, .ref (ma 1), (fv 2), (fv 3), .ref (ma 4), (fv 5), (fv 6), (fv 7), (fv 8), (fv 9), (fv 10), (fv 11), (fv 12), (fv 13), (fv 14), .int 1, (fv 16), .ref (ma 17), .ref (ma 18), .ref (ma 19), .ref (ma 20), .ref (ma 21), .ref (ma 22), .ref (ma 23), .ref (ma 24), .ref (ma 25), .ref (ma 26), .ref (ma 27), .ref (ma 28), .ref (ma 29), .ref (ma 30), .ref (ma 31), .ref (ma 32), .ref (ma 33), .ref (ma 34), .ref (ma 35), .ref (ma 36), .ref (ma 37), .ref (ma 38), .ref (ma 39), .ref (ma 40), .ref (ma 41), .ref (ma 42), .ref (ma 43), .ref (ma 44), .ref (ma 45), .ref (ma 46), .ref (ma 47), .ref (ma 48), (fv 49), (fv 50), (fv 51), (fv 52), (fv 53), (fv 54), (fv 55), (fv 56), (fv 57), (fv 58), .ref (ma 59), .ref (ma 60), (fv 61), (fv 62), .int (nI 1), .int (nI 0), .int 0, .int rv, .ref (ma 67), .ref (ma 68), .ref (ma 69), .int 0, (fv 71), .int (nI 0), .ref (ma 73)]))] := hD
    refine lv_if_ne (tgt := 9) hx hb dX12_makes_4 (by decide) (fun _ => ?_) (fun c9 => absurd c9 (by decide))
    refine lv_aload_n hx hb dX12_makes_9 rfl (lv_at hl 0 rfl) ?_
    refine lv_iload_n hx hb dX12_makes_10 rfl (lv_at hl 1 rfl) ?_
    have hPc := hP.sub (ws' := [(hm, .inr (12, [.int cd, .ref (ma 1), (fv 2), (fv 3), .ref (ma 4), (fv 5), (fv 6), (fv 7), (fv 8), (fv 9), (fv 10), (fv 11), (fv 12), (fv 13), (fv 14), .int 1, (fv 16), .ref (ma 17), .ref (ma 18), .ref (ma 19), .ref (ma 20), .ref (ma 21), .ref (ma 22), .ref (ma 23), .ref (ma 24), .ref (ma 25), .ref (ma 26), .ref (ma 27), .ref (ma 28), .ref (ma 29), .ref (ma 30), .ref (ma 31), .ref (ma 32), .ref (ma 33), .ref (ma 34), .ref (ma 35), .ref (ma 36), .ref (ma 37), .ref (ma 38), .ref (ma 39), .ref (ma 40), .ref (ma 41), .ref (ma 42), .ref (ma 43), .ref (ma 44), .ref (ma 45), .ref (ma 46), .ref (ma 47), .ref (ma 48), (fv 49), (fv 50), (fv 51), (fv 52), (fv 53), (fv 54), (fv 55), (fv 56), (fv 57), (fv 58), .ref (ma 59), .ref (ma 60), (fv 61), (fv 62), .int (nI 1), .int (nI 0), .int 0, .int rv, .ref (ma 67), .ref (ma 68), .ref (ma 69), .int 0, (fv 71), .int (nI 0), .ref (ma 73)])), ((ma 39), .inl (cy 1, 3400, .inl kf)), ((ma 40), .inl (cy 1, 3400, .inl af)), ((ma 46), .inl (cy 2, 3400, .inr (.inl nf))), ((ma 23), .inl (cy 1, 16, .inl tm)), ((ma 24), .inl (cy 1, 128, .inl mkf)), ((ma 25), .inl (cy 2, 128, .inr (.inl mnf))), ((ma 29), .inl (cy 1, 128, .inl mbf)), ((ma 68), .inl (cy 1, 210, .inl ttf)), ((ma 17), .inl (cy 1, 2, .inl ym)), ((ma 30), .inl (cy 1, 128, .inl mpf)), ((ma 59), .inl (cy 1, 16, .inl tsf)), ((ma 22), .inl (cy 1, 16, .inl tuf)), ((ma 37), .inl (cy 1, 128, .inl mtf)), ((ma 33), .inl (cy 1, 128, .inl mlf)), ((ma 69), .inl (cy 1, 13440, .inl ccf)), ((ma 67), .inl (cy 1, 78, .inl prf))]) [16, 0, 1, 2, 3, 4, 5, 6, 7, 8, 9, 10, 11, 12, 13, 14, 15] rfl
    have hDc := hD.sub (ws' := [(hm, .inr (12, [.int cd, .ref (ma 1), (fv 2), (fv 3), .ref (ma 4), (fv 5), (fv 6), (fv 7), (fv 8), (fv 9), (fv 10), (fv 11), (fv 12), (fv 13), (fv 14), .int 1, (fv 16), .ref (ma 17), .ref (ma 18), .ref (ma 19), .ref (ma 20), .ref (ma 21), .ref (ma 22), .ref (ma 23), .ref (ma 24), .ref (ma 25), .ref (ma 26), .ref (ma 27), .ref (ma 28), .ref (ma 29), .ref (ma 30), .ref (ma 31), .ref (ma 32), .ref (ma 33), .ref (ma 34), .ref (ma 35), .ref (ma 36), .ref (ma 37), .ref (ma 38), .ref (ma 39), .ref (ma 40), .ref (ma 41), .ref (ma 42), .ref (ma 43), .ref (ma 44), .ref (ma 45), .ref (ma 46), .ref (ma 47), .ref (ma 48), (fv 49), (fv 50), (fv 51), (fv 52), (fv 53), (fv 54), (fv 55), (fv 56), (fv 57), (fv 58), .ref (ma 59), .ref (ma 60), (fv 61), (fv 62), .int (nI 1), .int (nI 0), .int 0, .int rv, .ref (ma 67), .ref (ma 68), .ref (ma 69), .int 0, (fv 71), .int (nI 0), .ref (ma 73)])), ((ma 39), .inl (cy 1, 3400, .inl kf)), ((ma 40), .inl (cy 1, 3400, .inl af)), ((ma 46), .inl (cy 2, 3400, .inr (.inl nf))), ((ma 23), .inl (cy 1, 16, .inl tm)), ((ma 24), .inl (cy 1, 128, .inl mkf)), ((ma 25), .inl (cy 2, 128, .inr (.inl mnf))), ((ma 29), .inl (cy 1, 128, .inl mbf)), ((ma 68), .inl (cy 1, 210, .inl ttf)), ((ma 17), .inl (cy 1, 2, .inl ym)), ((ma 30), .inl (cy 1, 128, .inl mpf)), ((ma 59), .inl (cy 1, 16, .inl tsf)), ((ma 22), .inl (cy 1, 16, .inl tuf)), ((ma 37), .inl (cy 1, 128, .inl mtf)), ((ma 33), .inl (cy 1, 128, .inl mlf)), ((ma 69), .inl (cy 1, 13440, .inl ccf)), ((ma 67), .inl (cy 1, 78, .inl prf))]) [16, 0, 1, 2, 3, 4, 5, 6, 7, 8, 9, 10, 11, 12, 13, 14, 15] (by decide) rfl
    have hFc := va_free (wc := [(hm, .inr (12, [.int cd, .ref (ma 1), (fv 2), (fv 3), .ref (ma 4), (fv 5), (fv 6), (fv 7), (fv 8), (fv 9), (fv 10), (fv 11), (fv 12), (fv 13), (fv 14), .int 1, (fv 16), .ref (ma 17), .ref (ma 18), .ref (ma 19), .ref (ma 20), .ref (ma 21), .ref (ma 22), .ref (ma 23), .ref (ma 24), .ref (ma 25), .ref (ma 26), .ref (ma 27), .ref (ma 28), .ref (ma 29), .ref (ma 30), .ref (ma 31), .ref (ma 32), .ref (ma 33), .ref (ma 34), .ref (ma 35), .ref (ma 36), .ref (ma 37), .ref (ma 38), .ref (ma 39), .ref (ma 40), .ref (ma 41), .ref (ma 42), .ref (ma 43), .ref (ma 44), .ref (ma 45), .ref (ma 46), .ref (ma 47), .ref (ma 48), (fv 49), (fv 50), (fv 51), (fv 52), (fv 53), (fv 54), (fv 55), (fv 56), (fv 57), (fv 58), .ref (ma 59), .ref (ma 60), (fv 61), (fv 62), .int (nI 1), .int (nI 0), .int 0, .int rv, .ref (ma 67), .ref (ma 68), .ref (ma 69), .int 0, (fv 71), .int (nI 0), .ref (ma 73)])), ((ma 39), .inl (cy 1, 3400, .inl kf)), ((ma 40), .inl (cy 1, 3400, .inl af)), ((ma 46), .inl (cy 2, 3400, .inr (.inl nf))), ((ma 23), .inl (cy 1, 16, .inl tm)), ((ma 24), .inl (cy 1, 128, .inl mkf)), ((ma 25), .inl (cy 2, 128, .inr (.inl mnf))), ((ma 29), .inl (cy 1, 128, .inl mbf)), ((ma 68), .inl (cy 1, 210, .inl ttf)), ((ma 17), .inl (cy 1, 2, .inl ym)), ((ma 30), .inl (cy 1, 128, .inl mpf)), ((ma 59), .inl (cy 1, 16, .inl tsf)), ((ma 22), .inl (cy 1, 16, .inl tuf)), ((ma 37), .inl (cy 1, 128, .inl mtf)), ((ma 33), .inl (cy 1, 128, .inl mlf)), ((ma 69), .inl (cy 1, 13440, .inl ccf)), ((ma 67), .inl (cy 1, 78, .inl prf))]) hD hS hA [16, 0, 1, 2, 3, 4, 5, 6, 7, 8, 9, 10, 11, 12, 13, 14, 15] rfl
    refine va_callv (va_runV (As := [.int 8]) (rest := []) ⟨hx, hb, hml, hown, hT⟩ (d_begin l D cy H.size hm ma fv kf af nf tm mkf mnf mbf ttf kn nn 0 tt bb ss nm 1 0 rv cd 0 1 mb ms mx ym mpf tsf tuf mtf mlf ccf prf hk0 hts0) (cwV 1 hT (gTBV t_2185 t_2187 t_124 t_153 t_2188) rfl rfl rfl (by decide +kernel) ⟨Nat.le_add_left 1 k, Nat.le_trans (m := 40) (Nat.le_of_ble_eq_true rfl) (by show 40 ≤ 40 * (k + 1); omega)⟩) ⟨fun a U g mk q => by obtain ⟨q0, q1, qP, qK, qD⟩ := q; exact ⟨q0, q1, qP, va_K.moved (u := U) (U := U.calling g mk a) (Vm.Alike.refl U.vm) qK, qD⟩, va_recv hK hPc (ci := 12) (q0 := 0) rfl rfl, fun U hU hW => ⟨rfl, by rw [hU], by rw [hU]; exact hPc, va_K.moved hW.alike hK, hDc.weaken (fun _ _ _ _ => trivial)⟩⟩ rfl rfl hl.1 rfl (lv_room (Nat.le_of_ble_eq_true rfl)) dX12_makes_11 ⟨Nat.le_of_ble_eq_true rfl, Nat.le_of_ble_eq_true rfl⟩) hS (fun q _ h => hFc q h) hFc (fun  u t H1 locs ht hvm w3 hB hz1 hk1 hS => ?_)
    obtain ⟨k4, rfl⟩ : ∃ z, z = u := ⟨_, rfl⟩
    obtain ⟨hP1, hD1⟩ := hB
    rw [ht] at hP1
    obtain ⟨hP, hD⟩ := va_join (wr := []) (w1 := [(hm, .inr (12, [.int cd, .ref (ma 1), (fv 2), (fv 3), .ref (ma 4), (fv 5), (fv 6), (fv 7), (fv 8), (fv 9), (fv 10), (fv 11), (fv 12), (fv 13), (fv 14), .int 1, (fv 16), .ref (ma 17), .ref (ma 18), .ref (ma 19), .ref (ma 20), .ref (ma 21), .ref (ma 22), .ref (ma 23), .ref (ma 24), .ref (ma 25), .ref (ma 26), .ref (ma 27), .ref (ma 28), .ref (ma 29), .ref (ma 30), .ref (ma 31), .ref (ma 32), .ref (ma 33), .ref (ma 34), .ref (ma 35), .ref (ma 36), .ref (ma 37), .ref (ma 38), .ref (ma 39), .ref (ma 40), .ref (ma 41), .ref (ma 42), .ref (ma 43), .ref (ma 44), .ref (ma 45), .ref (ma 46), .ref (ma 47), .ref (ma 48), (fv 49), (fv 50), (fv 51), (fv 52), (fv 53), (fv 54), (fv 55), (fv 56), (fv 57), (fv 58), .ref (ma 59), .ref (ma 60), (fv 61), (fv 62), .int (nI 1), .int (nI 0), .int 0, .int rv, .ref (ma 67), .ref (ma 68), .ref (ma 69), .int 0, (fv 71), .int (nI 0), .ref (ma 73)])), ((ma 39), .inl (cy 1, 3400, .inl kf)), ((ma 40), .inl (cy 1, 3400, .inl af)), ((ma 46), .inl (cy 2, 3400, .inr (.inl nf))), ((ma 23), .inl (cy 1, 16, .inl tm)), ((ma 24), .inl (cy 1, 128, .inl mkf)), ((ma 25), .inl (cy 2, 128, .inr (.inl mnf))), ((ma 29), .inl (cy 1, 128, .inl mbf)), ((ma 68), .inl (cy 1, 210, .inl ttf)), ((ma 17), .inl (cy 1, 2, .inl ym)), ((ma 30), .inl (cy 1, 128, .inl mpf)), ((ma 59), .inl (cy 1, 16, .inl k4)), ((ma 22), .inl (cy 1, 16, .inl tuf)), ((ma 37), .inl (cy 1, 128, .inl mtf)), ((ma 33), .inl (cy 1, 128, .inl mlf)), ((ma 69), .inl (cy 1, 13440, .inl ccf)), ((ma 67), .inl (cy 1, 78, .inl prf))]) hP hD [16, 0, 1, 2, 3, 4, 5, 6, 7, 8, 9, 10, 11, 12, 13, 14, 15] [] rfl rfl (by decide) (by decide) hk1 hFc hP1 hD1
    generalize H1 = H at hP hS ⊢
    have hP : va_P D vwCl [(hm, .inr (12, [.int cd, .ref (ma 1), (fv 2), (fv 3), .ref (ma 4), (fv 5), (fv 6), (fv 7), (fv 8), (fv 9), (fv 10), (fv 11), (fv 12), (fv 13), (fv 14), .int 1, (fv 16), .ref (ma 17), .ref (ma 18), .ref (ma 19), .ref (ma 20), .ref (ma 21), .ref (ma 22), .ref (ma 23), .ref (ma 24), .ref (ma 25), .ref (ma 26), .ref (ma 27), .ref (ma 28), .ref (ma 29), .ref (ma 30), .ref (ma 31), .ref (ma 32), .ref (ma 33), .ref (ma 34), .ref (ma 35), .ref (ma 36), .ref (ma 37), .ref (ma 38), .ref (ma 39), .ref (ma 40), .ref (ma 41), .ref (ma 42), .ref (ma 43), .ref (ma 44), .ref (ma 45), .ref (ma 46), .ref (ma 47), .ref (ma 48), (fv 49), (fv 50), (fv 51), (fv 52), (fv 53), (fv 54), (fv 55), (fv 56), (fv 57), (fv 58), .ref (ma 59), .ref (ma 60), (fv 61), (fv 62), .int (nI 1), .int (nI 0), .int 0, .int rv, .ref (ma 67), .ref (ma 68), .ref (ma 69), .int 0, (fv 71), .int (nI 0), .ref (ma 73)])), ((ma 39), .inl (cy 1, 3400, .inl kf)), ((ma 40), .inl (cy 1, 3400, .inl af)), ((ma 46), .inl (cy 2, 3400, .inr (.inl nf))), ((ma 23), .inl (cy 1, 16, .inl tm)), ((ma 24), .inl (cy 1, 128, .inl mkf)), ((ma 25), .inl (cy 2, 128, .inr (.inl mnf))), ((ma 29), .inl (cy 1, 128, .inl mbf)), ((ma 68), .inl (cy 1, 210, .inl ttf)), ((ma 17), .inl (cy 1, 2, .inl ym)), ((ma 30), .inl (cy 1, 128, .inl mpf)), ((ma 59), .inl (cy 1, 16, .inl k4)), ((ma 22), .inl (cy 1, 16, .inl tuf)), ((ma 37), .inl (cy 1, 128, .inl mtf)), ((ma 33), .inl (cy 1, 128, .inl mlf)), ((ma 69), .inl (cy 1, 13440, .inl ccf)), ((ma 67), .inl (cy 1, 78, .inl prf))] H := hP
    have hD : va_D A [(hm, .inr (12, [.int cd, .ref (ma 1), (fv 2), (fv 3), .ref (ma 4), (fv 5), (fv 6), (fv 7), (fv 8), (fv 9), (fv 10), (fv 11), (fv 12), (fv 13), (fv 14), .int 1, (fv 16), .ref (ma 17), .ref (ma 18), .ref (ma 19), .ref (ma 20), .ref (ma 21), .ref (ma 22), .ref (ma 23), .ref (ma 24), .ref (ma 25), .ref (ma 26), .ref (ma 27), .ref (ma 28), .ref (ma 29), .ref (ma 30), .ref (ma 31), .ref (ma 32), .ref (ma 33), .ref (ma 34), .ref (ma 35), .ref (ma 36), .ref (ma 37), .ref (ma 38), .ref (ma 39), .ref (ma 40), .ref (ma 41), .ref (ma 42), .ref (ma 43), .ref (ma 44), .ref (ma 45), .ref (ma 46), .ref (ma 47), .ref (ma 48), (fv 49), (fv 50), (fv 51), (fv 52), (fv 53), (fv 54), (fv 55), (fv 56), (fv 57), (fv 58), .ref (ma 59), .ref (ma 60), (fv 61), (fv 62), .int (nI 1), .int (nI 0), .int 0, .int rv, .ref (ma 67), .ref (ma 68), .ref (ma 69), .int 0, (fv 71), .int (nI 0), .ref (ma 73)])), ((ma 39), .inl (cy 1, 3400, .inl kf)), ((ma 40), .inl (cy 1, 3400, .inl af)), ((ma 46), .inl (cy 2, 3400, .inr (.inl nf))), ((ma 23), .inl (cy 1, 16, .inl tm)), ((ma 24), .inl (cy 1, 128, .inl mkf)), ((ma 25), .inl (cy 2, 128, .inr (.inl mnf))), ((ma 29), .inl (cy 1, 128, .inl mbf)), ((ma 68), .inl (cy 1, 210, .inl ttf)), ((ma 17), .inl (cy 1, 2, .inl ym)), ((ma 30), .inl (cy 1, 128, .inl mpf)), ((ma 59), .inl (cy 1, 16, .inl k4)), ((ma 22), .inl (cy 1, 16, .inl tuf)), ((ma 37), .inl (cy 1, 128, .inl mtf)), ((ma 33), .inl (cy 1, 128, .inl mlf)), ((ma 69), .inl (cy 1, 13440, .inl ccf)), ((ma 67), .inl (cy 1, 78, .inl prf))] := hD
    have hP : va_P D vwCl [(hm, .inr (12, [.int cd, .ref (ma 1), (fv 2), (fv 3), .ref (ma 4), (fv 5), (fv 6), (fv 7), (fv 8), (fv 9), (fv 10), (fv 11), (fv 12), (fv 13), (fv 14), .int 1, (fv 16), .ref (ma 17), .ref (ma 18), .ref (ma 19), .ref (ma 20), .ref (ma 21), .ref (ma 22), .ref (ma 23), .ref (ma 24), .ref (ma 25), .ref (ma 26), .ref (ma 27), .ref (ma 28), .ref (ma 29), .ref (ma 30), .ref (ma 31), .ref (ma 32), .ref (ma 33), .ref (ma 34), .ref (ma 35), .ref (ma 36), .ref (ma 37), .ref (ma 38), .ref (ma 39), .ref (ma 40), .ref (ma 41), .ref (ma 42), .ref (ma 43), .ref (ma 44), .ref (ma 45), .ref (ma 46), .ref (ma 47), .ref (ma 48), (fv 49), (fv 50), (fv 51), (fv 52), (fv 53), (fv 54), (fv 55), (fv 56), (fv 57), (fv 58), .ref (ma 59), .ref (ma 60), (fv 61), (fv 62), .int (nI 1), .int (nI 0), .int 0, .int rv, .ref (ma 67), .ref (ma 68), .ref (ma 69), .int 0, (fv 71), .int (nI 0), .ref (ma 73)])), ((ma 39), .inl (cy 1, 3400, .inl kf)), ((ma 40), .inl (cy 1, 3400, .inl af)), ((ma 46), .inl (cy 2, 3400, .inr (.inl nf))), ((ma 23), .inl (cy 1, 16, .inl tm)), ((ma 24), .inl (cy 1, 128, .inl mkf)), ((ma 25), .inl (cy 2, 128, .inr (.inl mnf))), ((ma 29), .inl (cy 1, 128, .inl mbf)), ((ma 68), .inl (cy 1, 210, .inl ttf)), ((ma 17), .inl (cy 1, 2, .inl ym)), ((ma 30), .inl (cy 1, 128, .inl mpf)), ((ma 59), .inl (cy 1, 16, .inl k4)), ((ma 22), .inl (cy 1, 16, .inl tuf)), ((ma 37), .inl (cy 1, 128, .inl mtf)), ((ma 33), .inl (cy 1, 128, .inl mlf)), ((ma 69), .inl (cy 1, 13440, .inl ccf)), ((ma 67), .inl (cy 1, 78, .inl prf))] H := hP
    have hD : va_D A [(hm, .inr (12, [.int cd, .ref (ma 1), (fv 2), (fv 3), .ref (ma 4), (fv 5), (fv 6), (fv 7), (fv 8), (fv 9), (fv 10), (fv 11), (fv 12), (fv 13), (fv 14), .int 1, (fv 16), .ref (ma 17), .ref (ma 18), .ref (ma 19), .ref (ma 20), .ref (ma 21), .ref (ma 22), .ref (ma 23), .ref (ma 24), .ref (ma 25), .ref (ma 26), .ref (ma 27), .ref (ma 28), .ref (ma 29), .ref (ma 30), .ref (ma 31), .ref (ma 32), .ref (ma 33), .ref (ma 34), .ref (ma 35), .ref (ma 36), .ref (ma 37), .ref (ma 38), .ref (ma 39), .ref (ma 40), .ref (ma 41), .ref (ma 42), .ref (ma 43), .ref (ma 44), .ref (ma 45), .ref (ma 46), .ref (ma 47), .ref (ma 48), (fv 49), (fv 50), (fv 51), (fv 52), (fv 53), (fv 54), (fv 55), (fv 56), (fv 57), (fv 58), .ref (ma 59), .ref (ma 60), (fv 61), (fv 62), .int (nI 1), .int (nI 0), .int 0, .int rv, .ref (ma 67), .ref (ma 68), .ref (ma 69), .int 0, (fv 71), .int (nI 0), .ref (ma 73)])), ((ma 39), .inl (cy 1, 3400, .inl kf)), ((ma 40), .inl (cy 1, 3400, .inl af)), ((ma 46), .inl (cy 2, 3400, .inr (.inl nf))), ((ma 23), .inl (cy 1, 16, .inl tm)), ((ma 24), .inl (cy 1, 128, .inl mkf)), ((ma 25), .inl (cy 2, 128, .inr (.inl mnf))), ((ma 29), .inl (cy 1, 128, .inl mbf)), ((ma 68), .inl (cy 1, 210, .inl ttf)), ((ma 17), .inl (cy 1, 2, .inl ym)), ((ma 30), .inl (cy 1, 128, .inl mpf)), ((ma 59), .inl (cy 1, 16, .inl k4)), ((ma 22), .inl (cy 1, 16, .inl tuf)), ((ma 37), .inl (cy 1, 128, .inl mtf)), ((ma 33), .inl (cy 1, 128, .inl mlf)), ((ma 69), .inl (cy 1, 13440, .inl ccf)), ((ma 67), .inl (cy 1, 78, .inl prf))] := hD
    refine lv_aload_n hx hb dX12_makes_14 rfl (lv_at hl 0 rfl) ?_
    refine va_get (D := D) (ci := 12) (v := .int 0) (C := RX12) (T := TX12) (N := 74) hx hb hT i_TX12 hown hK hP 0 rfl rfl 65 (by decide) (hT _ t_1780) (fun _ h9 => h9) rfl dX12_makes_15 ?_
    refine lv_if_eq (tgt := 23) hx hb dX12_makes_18 (by decide) (fun _ => ?_) (fun c9 => absurd (by decide) c9)
    refine lv_aload_n hx hb dX12_makes_23 rfl (lv_at hl 0 rfl) ?_
    refine va_get (D := D) (ci := 12) (v := .int 0) (C := RX12) (T := TX12) (N := 74) hx hb hT i_TX12 hown hK hP 0 rfl rfl 70 (by decide) (hT _ t_1785) (fun _ h9 => h9) rfl dX12_makes_24 ?_
    refine lv_istore (lv' := [(6, .int 0), (0, .ref hm), (1, .int 8), (2, .int 65), (3, .int 0), (4, .int 0), (5, .int 0)]) hx hb dX12_makes_27 hl (by decide) rfl (fun ls hl => ?_)
    refine lv_aload_n hx hb dX12_makes_29 rfl (lv_at hl 1 rfl) ?_
    refine lv_dup hx hb dX12_makes_30 rfl ?_
    refine va_get (D := D) (ci := 12) (v := .int 0) (C := RX12) (T := TX12) (N := 74) hx hb hT i_TX12 hown hK hP 0 rfl rfl 70 (by decide) (hT _ t_1785) (fun _ h9 => h9) rfl dX12_makes_31 ?_
    refine lv_iconst (v := 1) hx hb dX12_makes_34 (by decide) ?_
    refine lv_iadd hx hb dX12_makes_35 ?_
    refine lv_topi (fun z5 e6 => ?_)
    obtain rfl : z5 = 1 := e6.trans (by first | decide | rfl)
    refine va_put (D := D) (ci := 12) (v := .int 1) (ty := .int) (C := RX12) (T := TX12) (N := 74) hx hb hT i_TX12 tyX12 tyX12_ok nmX12 hown hK hP hD hS 0 rfl rfl 70 (by decide) (hT _ t_1785) (fun _ h9 => h9) rfl (by decide +kernel) rfl rfl (Nat.le_of_ble_eq_true rfl) dX12_makes_36 (fun H locs hP hD hS => ?_)
    have hP : va_P D vwCl [(hm, .inr (12, [.int cd, .ref (ma 1), (fv 2), (fv 3), .ref (ma 4), (fv 5), (fv 6), (fv 7), (fv 8), (fv 9), (fv 10), (fv 11), (fv 12), (fv 13), (fv 14), .int 1, (fv 16), .ref (ma 17), .ref (ma 18), .ref (ma 19), .ref (ma 20), .ref (ma 21), .ref (ma 22), .ref (ma 23), .ref (ma 24), .ref (ma 25), .ref (ma 26), .ref (ma 27), .ref (ma 28), .ref (ma 29), .ref (ma 30), .ref (ma 31), .ref (ma 32), .ref (ma 33), .ref (ma 34), .ref (ma 35), .ref (ma 36), .ref (ma 37), .ref (ma 38), .ref (ma 39), .ref (ma 40), .ref (ma 41), .ref (ma 42), .ref (ma 43), .ref (ma 44), .ref (ma 45), .ref (ma 46), .ref (ma 47), .ref (ma 48), (fv 49), (fv 50), (fv 51), (fv 52), (fv 53), (fv 54), (fv 55), (fv 56), (fv 57), (fv 58), .ref (ma 59), .ref (ma 60), (fv 61), (fv 62), .int (nI 1), .int (nI 0), .int 0, .int rv, .ref (ma 67), .ref (ma 68), .ref (ma 69), .int 1, (fv 71), .int (nI 0), .ref (ma 73)])), ((ma 39), .inl (cy 1, 3400, .inl kf)), ((ma 40), .inl (cy 1, 3400, .inl af)), ((ma 46), .inl (cy 2, 3400, .inr (.inl nf))), ((ma 23), .inl (cy 1, 16, .inl tm)), ((ma 24), .inl (cy 1, 128, .inl mkf)), ((ma 25), .inl (cy 2, 128, .inr (.inl mnf))), ((ma 29), .inl (cy 1, 128, .inl mbf)), ((ma 68), .inl (cy 1, 210, .inl ttf)), ((ma 17), .inl (cy 1, 2, .inl ym)), ((ma 30), .inl (cy 1, 128, .inl mpf)), ((ma 59), .inl (cy 1, 16, .inl k4)), ((ma 22), .inl (cy 1, 16, .inl tuf)), ((ma 37), .inl (cy 1, 128, .inl mtf)), ((ma 33), .inl (cy 1, 128, .inl mlf)), ((ma 69), .inl (cy 1, 13440, .inl ccf)), ((ma 67), .inl (cy 1, 78, .inl prf))] H := hP
    have hD : va_D A [(hm, .inr (12, [.int cd, .ref (ma 1), (fv 2), (fv 3), .ref (ma 4), (fv 5), (fv 6), (fv 7), (fv 8), (fv 9), (fv 10), (fv 11), (fv 12), (fv 13), (fv 14), .int 1, (fv 16), .ref (ma 17), .ref (ma 18), .ref (ma 19), .ref (ma 20), .ref (ma 21), .ref (ma 22), .ref (ma 23), .ref (ma 24), .ref (ma 25), .ref (ma 26), .ref (ma 27), .ref (ma 28), .ref (ma 29), .ref (ma 30), .ref (ma 31), .ref (ma 32), .ref (ma 33), .ref (ma 34), .ref (ma 35), .ref (ma 36), .ref (ma 37), .ref (ma 38), .ref (ma 39), .ref (ma 40), .ref (ma 41), .ref (ma 42), .ref (ma 43), .ref (ma 44), .ref (ma 45), .ref (ma 46), .ref (ma 47), .ref (ma 48), (fv 49), (fv 50), (fv 51), (fv 52), (fv 53), (fv 54), (fv 55), (fv 56), (fv 57), (fv 58), .ref (ma 59), .ref (ma 60), (fv 61), (fv 62), .int (nI 1), .int (nI 0), .int 0, .int rv, .ref (ma 67), .ref (ma 68), .ref (ma 69), .int 1, (fv 71), .int (nI 0), .ref (ma 73)])), ((ma 39), .inl (cy 1, 3400, .inl kf)), ((ma 40), .inl (cy 1, 3400, .inl af)), ((ma 46), .inl (cy 2, 3400, .inr (.inl nf))), ((ma 23), .inl (cy 1, 16, .inl tm)), ((ma 24), .inl (cy 1, 128, .inl mkf)), ((ma 25), .inl (cy 2, 128, .inr (.inl mnf))), ((ma 29), .inl (cy 1, 128, .inl mbf)), ((ma 68), .inl (cy 1, 210, .inl ttf)), ((ma 17), .inl (cy 1, 2, .inl ym)), ((ma 30), .inl (cy 1, 128, .inl mpf)), ((ma 59), .inl (cy 1, 16, .inl k4)), ((ma 22), .inl (cy 1, 16, .inl tuf)), ((ma 37), .inl (cy 1, 128, .inl mtf)), ((ma 33), .inl (cy 1, 128, .inl mlf)), ((ma 69), .inl (cy 1, 13440, .inl ccf)), ((ma 67), .inl (cy 1, 78, .inl prf))] := hD
    refine lv_aload_n hx hb dX12_makes_39 rfl (lv_at hl 1 rfl) ?_
    refine va_get (D := D) (ci := 12) (v := .ref (ma 68)) (C := RX12) (T := TX12) (N := 74) hx hb hT i_TX12 hown hK hP 0 rfl rfl 68 (by decide) (hT _ t_1783) (fun _ h9 => h9) rfl dX12_makes_40 ?_
    refine lv_iload hx hb dX12_makes_43 (lv_at hl 0 rfl) ?_
    refine lv_iload_n hx hb dX12_makes_45 rfl (lv_at hl 2 rfl) ?_
    refine va_iast hx hb hK hP hD hS 8 1 rfl rfl (vp_in_iff.mpr (by decide)) dX12_makes_46 (fun H locs hP hD hS => ?_)
    have hP : va_P D vwCl [(hm, .inr (12, [.int cd, .ref (ma 1), (fv 2), (fv 3), .ref (ma 4), (fv 5), (fv 6), (fv 7), (fv 8), (fv 9), (fv 10), (fv 11), (fv 12), (fv 13), (fv 14), .int 1, (fv 16), .ref (ma 17), .ref (ma 18), .ref (ma 19), .ref (ma 20), .ref (ma 21), .ref (ma 22), .ref (ma 23), .ref (ma 24), .ref (ma 25), .ref (ma 26), .ref (ma 27), .ref (ma 28), .ref (ma 29), .ref (ma 30), .ref (ma 31), .ref (ma 32), .ref (ma 33), .ref (ma 34), .ref (ma 35), .ref (ma 36), .ref (ma 37), .ref (ma 38), .ref (ma 39), .ref (ma 40), .ref (ma 41), .ref (ma 42), .ref (ma 43), .ref (ma 44), .ref (ma 45), .ref (ma 46), .ref (ma 47), .ref (ma 48), (fv 49), (fv 50), (fv 51), (fv 52), (fv 53), (fv 54), (fv 55), (fv 56), (fv 57), (fv 58), .ref (ma 59), .ref (ma 60), (fv 61), (fv 62), .int (nI 1), .int (nI 0), .int 0, .int rv, .ref (ma 67), .ref (ma 68), .ref (ma 69), .int 1, (fv 71), .int (nI 0), .ref (ma 73)])), ((ma 39), .inl (cy 1, 3400, .inl kf)), ((ma 40), .inl (cy 1, 3400, .inl af)), ((ma 46), .inl (cy 2, 3400, .inr (.inl nf))), ((ma 23), .inl (cy 1, 16, .inl tm)), ((ma 24), .inl (cy 1, 128, .inl mkf)), ((ma 25), .inl (cy 2, 128, .inr (.inl mnf))), ((ma 29), .inl (cy 1, 128, .inl mbf)), ((ma 68), .inl (cy 1, 210, .inl (upd ttf (0 : Int32).toNatClampNeg 8))), ((ma 17), .inl (cy 1, 2, .inl ym)), ((ma 30), .inl (cy 1, 128, .inl mpf)), ((ma 59), .inl (cy 1, 16, .inl k4)), ((ma 22), .inl (cy 1, 16, .inl tuf)), ((ma 37), .inl (cy 1, 128, .inl mtf)), ((ma 33), .inl (cy 1, 128, .inl mlf)), ((ma 69), .inl (cy 1, 13440, .inl ccf)), ((ma 67), .inl (cy 1, 78, .inl prf))] H := hP
    have hD : va_D A [(hm, .inr (12, [.int cd, .ref (ma 1), (fv 2), (fv 3), .ref (ma 4), (fv 5), (fv 6), (fv 7), (fv 8), (fv 9), (fv 10), (fv 11), (fv 12), (fv 13), (fv 14), .int 1, (fv 16), .ref (ma 17), .ref (ma 18), .ref (ma 19), .ref (ma 20), .ref (ma 21), .ref (ma 22), .ref (ma 23), .ref (ma 24), .ref (ma 25), .ref (ma 26), .ref (ma 27), .ref (ma 28), .ref (ma 29), .ref (ma 30), .ref (ma 31), .ref (ma 32), .ref (ma 33), .ref (ma 34), .ref (ma 35), .ref (ma 36), .ref (ma 37), .ref (ma 38), .ref (ma 39), .ref (ma 40), .ref (ma 41), .ref (ma 42), .ref (ma 43), .ref (ma 44), .ref (ma 45), .ref (ma 46), .ref (ma 47), .ref (ma 48), (fv 49), (fv 50), (fv 51), (fv 52), (fv 53), (fv 54), (fv 55), (fv 56), (fv 57), (fv 58), .ref (ma 59), .ref (ma 60), (fv 61), (fv 62), .int (nI 1), .int (nI 0), .int 0, .int rv, .ref (ma 67), .ref (ma 68), .ref (ma 69), .int 1, (fv 71), .int (nI 0), .ref (ma 73)])), ((ma 39), .inl (cy 1, 3400, .inl kf)), ((ma 40), .inl (cy 1, 3400, .inl af)), ((ma 46), .inl (cy 2, 3400, .inr (.inl nf))), ((ma 23), .inl (cy 1, 16, .inl tm)), ((ma 24), .inl (cy 1, 128, .inl mkf)), ((ma 25), .inl (cy 2, 128, .inr (.inl mnf))), ((ma 29), .inl (cy 1, 128, .inl mbf)), ((ma 68), .inl (cy 1, 210, .inl (upd ttf (0 : Int32).toNatClampNeg 8))), ((ma 17), .inl (cy 1, 2, .inl ym)), ((ma 30), .inl (cy 1, 128, .inl mpf)), ((ma 59), .inl (cy 1, 16, .inl k4)), ((ma 22), .inl (cy 1, 16, .inl tuf)), ((ma 37), .inl (cy 1, 128, .inl mtf)), ((ma 33), .inl (cy 1, 128, .inl mlf)), ((ma 69), .inl (cy 1, 13440, .inl ccf)), ((ma 67), .inl (cy 1, 78, .inl prf))] := hD
    generalize hff7 : (upd ttf (0 : Int32).toNatClampNeg 8) = f7 at hP hD
    refine lv_iconst (v := 0) hx hb dX12_makes_47 (by decide) ?_
    refine lv_istore (lv' := [(7, .int 0), (6, .int 0), (0, .ref hm), (1, .int 8), (2, .int 65), (3, .int 0), (4, .int 0), (5, .int 0)]) hx hb dX12_makes_48 hl (by decide) rfl (fun ls hl => ?_)
    have htt0 : f7 0 = 8 := by rw [← hff7]; rfl
    have hP : va_P D vwCl [(hm, .inr (12, [.int cd, .ref (ma 1), (fv 2), (fv 3), .ref (ma 4), (fv 5), (fv 6), (fv 7), (fv 8), (fv 9), (fv 10), (fv 11), (fv 12), (fv 13), (fv 14), .int 1, (fv 16), .ref (ma 17), .ref (ma 18), .ref (ma 19), .ref (ma 20), .ref (ma 21), .ref (ma 22), .ref (ma 23), .ref (ma 24), .ref (ma 25), .ref (ma 26), .ref (ma 27), .ref (ma 28), .ref (ma 29), .ref (ma 30), .ref (ma 31), .ref (ma 32), .ref (ma 33), .ref (ma 34), .ref (ma 35), .ref (ma 36), .ref (ma 37), .ref (ma 38), .ref (ma 39), .ref (ma 40), .ref (ma 41), .ref (ma 42), .ref (ma 43), .ref (ma 44), .ref (ma 45), .ref (ma 46), .ref (ma 47), .ref (ma 48), (fv 49), (fv 50), (fv 51), (fv 52), (fv 53), (fv 54), (fv 55), (fv 56), (fv 57), (fv 58), .ref (ma 59), .ref (ma 60), (fv 61), (fv 62), .int (nI 1), .int (nI 0), .int 0, .int rv, .ref (ma 67), .ref (ma 68), .ref (ma 69), .int 1, (fv 71), .int (nI 0), .ref (ma 73)])), ((ma 39), .inl (cy 1, 3400, .inl kf)), ((ma 40), .inl (cy 1, 3400, .inl af)), ((ma 46), .inl (cy 2, 3400, .inr (.inl nf))), ((ma 23), .inl (cy 1, 16, .inl tm)), ((ma 24), .inl (cy 1, 128, .inl mkf)), ((ma 25), .inl (cy 2, 128, .inr (.inl mnf))), ((ma 29), .inl (cy 1, 128, .inl mbf)), ((ma 68), .inl (cy 1, 210, .inl f7)), ((ma 17), .inl (cy 1, 2, .inl ym)), ((ma 30), .inl (cy 1, 128, .inl mpf)), ((ma 59), .inl (cy 1, 16, .inl k4)), ((ma 22), .inl (cy 1, 16, .inl tuf)), ((ma 37), .inl (cy 1, 128, .inl mtf)), ((ma 33), .inl (cy 1, 128, .inl mlf)), ((ma 69), .inl (cy 1, 13440, .inl ccf)), ((ma 67), .inl (cy 1, 78, .inl prf))] H := hP
    have hD : va_D A [(hm, .inr (12, [.int cd, .ref (ma 1), (fv 2), (fv 3), .ref (ma 4), (fv 5), (fv 6), (fv 7), (fv 8), (fv 9), (fv 10), (fv 11), (fv 12), (fv 13), (fv 14), .int 1, (fv 16), .ref (ma 17), .ref (ma 18), .ref (ma 19), .ref (ma 20), .ref (ma 21), .ref (ma 22), .ref (ma 23), .ref (ma 24), .ref (ma 25), .ref (ma 26), .ref (ma 27), .ref (ma 28), .ref (ma 29), .ref (ma 30), .ref (ma 31), .ref (ma 32), .ref (ma 33), .ref (ma 34), .ref (ma 35), .ref (ma 36), .ref (ma 37), .ref (ma 38), .ref (ma 39), .ref (ma 40), .ref (ma 41), .ref (ma 42), .ref (ma 43), .ref (ma 44), .ref (ma 45), .ref (ma 46), .ref (ma 47), .ref (ma 48), (fv 49), (fv 50), (fv 51), (fv 52), (fv 53), (fv 54), (fv 55), (fv 56), (fv 57), (fv 58), .ref (ma 59), .ref (ma 60), (fv 61), (fv 62), .int (nI 1), .int (nI 0), .int 0, .int rv, .ref (ma 67), .ref (ma 68), .ref (ma 69), .int 1, (fv 71), .int (nI 0), .ref (ma 73)])), ((ma 39), .inl (cy 1, 3400, .inl kf)), ((ma 40), .inl (cy 1, 3400, .inl af)), ((ma 46), .inl (cy 2, 3400, .inr (.inl nf))), ((ma 23), .inl (cy 1, 16, .inl tm)), ((ma 24), .inl (cy 1, 128, .inl mkf)), ((ma 25), .inl (cy 2, 128, .inr (.inl mnf))), ((ma 29), .inl (cy 1, 128, .inl mbf)), ((ma 68), .inl (cy 1, 210, .inl f7)), ((ma 17), .inl (cy 1, 2, .inl ym)), ((ma 30), .inl (cy 1, 128, .inl mpf)), ((ma 59), .inl (cy 1, 16, .inl k4)), ((ma 22), .inl (cy 1, 16, .inl tuf)), ((ma 37), .inl (cy 1, 128, .inl mtf)), ((ma 33), .inl (cy 1, 128, .inl mlf)), ((ma 69), .inl (cy 1, 13440, .inl ccf)), ((ma 67), .inl (cy 1, 78, .inl prf))] := hD
    refine loopD (St := Nat × (Nat → Int32)) (fun n st H locs ls => st.1 + n = 64 ∧ va_P D vwCl [(hm, .inr (12, [.int cd, .ref (ma 1), (fv 2), (fv 3), .ref (ma 4), (fv 5), (fv 6), (fv 7), (fv 8), (fv 9), (fv 10), (fv 11), (fv 12), (fv 13), (fv 14), .int 1, (fv 16), .ref (ma 17), .ref (ma 18), .ref (ma 19), .ref (ma 20), .ref (ma 21), .ref (ma 22), .ref (ma 23), .ref (ma 24), .ref (ma 25), .ref (ma 26), .ref (ma 27), .ref (ma 28), .ref (ma 29), .ref (ma 30), .ref (ma 31), .ref (ma 32), .ref (ma 33), .ref (ma 34), .ref (ma 35), .ref (ma 36), .ref (ma 37), .ref (ma 38), .ref (ma 39), .ref (ma 40), .ref (ma 41), .ref (ma 42), .ref (ma 43), .ref (ma 44), .ref (ma 45), .ref (ma 46), .ref (ma 47), .ref (ma 48), (fv 49), (fv 50), (fv 51), (fv 52), (fv 53), (fv 54), (fv 55), (fv 56), (fv 57), (fv 58), .ref (ma 59), .ref (ma 60), (fv 61), (fv 62), .int (nI 1), .int (nI 0), .int 0, .int rv, .ref (ma 67), .ref (ma 68), .ref (ma 69), .int 1, (fv 71), .int (nI 0), .ref (ma 73)])), ((ma 39), .inl (cy 1, 3400, .inl kf)), ((ma 40), .inl (cy 1, 3400, .inl af)), ((ma 46), .inl (cy 2, 3400, .inr (.inl nf))), ((ma 23), .inl (cy 1, 16, .inl tm)), ((ma 24), .inl (cy 1, 128, .inl mkf)), ((ma 25), .inl (cy 2, 128, .inr (.inl mnf))), ((ma 29), .inl (cy 1, 128, .inl mbf)), ((ma 68), .inl (cy 1, 210, .inl f7)), ((ma 17), .inl (cy 1, 2, .inl ym)), ((ma 30), .inl (cy 1, 128, .inl mpf)), ((ma 59), .inl (cy 1, 16, .inl k4)), ((ma 22), .inl (cy 1, 16, .inl tuf)), ((ma 37), .inl (cy 1, 128, .inl mtf)), ((ma 33), .inl (cy 1, 128, .inl mlf)), ((ma 69), .inl (cy 1, 13440, .inl st.2)), ((ma 67), .inl (cy 1, 78, .inl prf))] H ∧ va_D A [(hm, .inr (12, [.int cd, .ref (ma 1), (fv 2), (fv 3), .ref (ma 4), (fv 5), (fv 6), (fv 7), (fv 8), (fv 9), (fv 10), (fv 11), (fv 12), (fv 13), (fv 14), .int 1, (fv 16), .ref (ma 17), .ref (ma 18), .ref (ma 19), .ref (ma 20), .ref (ma 21), .ref (ma 22), .ref (ma 23), .ref (ma 24), .ref (ma 25), .ref (ma 26), .ref (ma 27), .ref (ma 28), .ref (ma 29), .ref (ma 30), .ref (ma 31), .ref (ma 32), .ref (ma 33), .ref (ma 34), .ref (ma 35), .ref (ma 36), .ref (ma 37), .ref (ma 38), .ref (ma 39), .ref (ma 40), .ref (ma 41), .ref (ma 42), .ref (ma 43), .ref (ma 44), .ref (ma 45), .ref (ma 46), .ref (ma 47), .ref (ma 48), (fv 49), (fv 50), (fv 51), (fv 52), (fv 53), (fv 54), (fv 55), (fv 56), (fv 57), (fv 58), .ref (ma 59), .ref (ma 60), (fv 61), (fv 62), .int (nI 1), .int (nI 0), .int 0, .int rv, .ref (ma 67), .ref (ma 68), .ref (ma 69), .int 1, (fv 71), .int (nI 0), .ref (ma 73)])), ((ma 39), .inl (cy 1, 3400, .inl kf)), ((ma 40), .inl (cy 1, 3400, .inl af)), ((ma 46), .inl (cy 2, 3400, .inr (.inl nf))), ((ma 23), .inl (cy 1, 16, .inl tm)), ((ma 24), .inl (cy 1, 128, .inl mkf)), ((ma 25), .inl (cy 2, 128, .inr (.inl mnf))), ((ma 29), .inl (cy 1, 128, .inl mbf)), ((ma 68), .inl (cy 1, 210, .inl f7)), ((ma 17), .inl (cy 1, 2, .inl ym)), ((ma 30), .inl (cy 1, 128, .inl mpf)), ((ma 59), .inl (cy 1, 16, .inl k4)), ((ma 22), .inl (cy 1, 16, .inl tuf)), ((ma 37), .inl (cy 1, 128, .inl mtf)), ((ma 33), .inl (cy 1, 128, .inl mlf)), ((ma 69), .inl (cy 1, 13440, .inl st.2)), ((ma 67), .inl (cy 1, 78, .inl prf))] ∧ va_S A s.heap H locs ∧ lv_has ls 8 [(7, .int (nI st.1)), (0, .ref hm), (1, .int 8), (2, .int 65), (3, .int 0), (4, .int 0), (5, .int 0), (6, .int 0)]) 50 ?_ ?_ 64 (0, ccf) _ _ ls ⟨rfl, hP, hD, hS, lv_sub hl [0, 2, 3, 4, 5, 6, 7, 1] rfl⟩
    · rintro ⟨i, fk⟩ H locs ls ⟨hi, hP, hD, hS, hl⟩
      dsimp only at hi hP hD hl
      obtain rfl : i = 64 := by omega
      refine lv_iload hx hb dX12_makes_50 (lv_at hl 0 rfl) ?_
      refine lv_bipush (v := 64) hx hb dX12_makes_52 (by decide) ?_
      refine lv_icmp_ge (tgt := 77) hx hb dX12_makes_54 (by decide) (fun _ => ?_) (fun c9 => absurd (by decide) c9)
      refine lv_aload_n hx hb dX12_makes_77 rfl (lv_at hl 1 rfl) ?_
      refine lv_iload hx hb dX12_makes_78 (lv_at hl 7 rfl) ?_
      refine va_put (D := D) (ci := 12) (v := .int 0) (ty := .int) (C := RX12) (T := TX12) (N := 74) hx hb hT i_TX12 tyX12 tyX12_ok nmX12 hown hK hP hD hS 0 rfl rfl 72 (by decide) (hT _ t_1787) (fun _ h9 => h9) rfl (by decide +kernel) rfl rfl (Nat.le_of_ble_eq_true rfl) dX12_makes_80 (fun H locs hP hD hS => ?_)
      have hP : va_P D vwCl [(hm, .inr (12, [.int cd, .ref (ma 1), (fv 2), (fv 3), .ref (ma 4), (fv 5), (fv 6), (fv 7), (fv 8), (fv 9), (fv 10), (fv 11), (fv 12), (fv 13), (fv 14), .int 1, (fv 16), .ref (ma 17), .ref (ma 18), .ref (ma 19), .ref (ma 20), .ref (ma 21), .ref (ma 22), .ref (ma 23), .ref (ma 24), .ref (ma 25), .ref (ma 26), .ref (ma 27), .ref (ma 28), .ref (ma 29), .ref (ma 30), .ref (ma 31), .ref (ma 32), .ref (ma 33), .ref (ma 34), .ref (ma 35), .ref (ma 36), .ref (ma 37), .ref (ma 38), .ref (ma 39), .ref (ma 40), .ref (ma 41), .ref (ma 42), .ref (ma 43), .ref (ma 44), .ref (ma 45), .ref (ma 46), .ref (ma 47), .ref (ma 48), (fv 49), (fv 50), (fv 51), (fv 52), (fv 53), (fv 54), (fv 55), (fv 56), (fv 57), (fv 58), .ref (ma 59), .ref (ma 60), (fv 61), (fv 62), .int (nI 1), .int (nI 0), .int 0, .int rv, .ref (ma 67), .ref (ma 68), .ref (ma 69), .int 1, (fv 71), .int 0, .ref (ma 73)])), ((ma 39), .inl (cy 1, 3400, .inl kf)), ((ma 40), .inl (cy 1, 3400, .inl af)), ((ma 46), .inl (cy 2, 3400, .inr (.inl nf))), ((ma 23), .inl (cy 1, 16, .inl tm)), ((ma 24), .inl (cy 1, 128, .inl mkf)), ((ma 25), .inl (cy 2, 128, .inr (.inl mnf))), ((ma 29), .inl (cy 1, 128, .inl mbf)), ((ma 68), .inl (cy 1, 210, .inl f7)), ((ma 17), .inl (cy 1, 2, .inl ym)), ((ma 30), .inl (cy 1, 128, .inl mpf)), ((ma 59), .inl (cy 1, 16, .inl k4)), ((ma 22), .inl (cy 1, 16, .inl tuf)), ((ma 37), .inl (cy 1, 128, .inl mtf)), ((ma 33), .inl (cy 1, 128, .inl mlf)), ((ma 69), .inl (cy 1, 13440, .inl fk)), ((ma 67), .inl (cy 1, 78, .inl prf))] H := hP
      have hD : va_D A [(hm, .inr (12, [.int cd, .ref (ma 1), (fv 2), (fv 3), .ref (ma 4), (fv 5), (fv 6), (fv 7), (fv 8), (fv 9), (fv 10), (fv 11), (fv 12), (fv 13), (fv 14), .int 1, (fv 16), .ref (ma 17), .ref (ma 18), .ref (ma 19), .ref (ma 20), .ref (ma 21), .ref (ma 22), .ref (ma 23), .ref (ma 24), .ref (ma 25), .ref (ma 26), .ref (ma 27), .ref (ma 28), .ref (ma 29), .ref (ma 30), .ref (ma 31), .ref (ma 32), .ref (ma 33), .ref (ma 34), .ref (ma 35), .ref (ma 36), .ref (ma 37), .ref (ma 38), .ref (ma 39), .ref (ma 40), .ref (ma 41), .ref (ma 42), .ref (ma 43), .ref (ma 44), .ref (ma 45), .ref (ma 46), .ref (ma 47), .ref (ma 48), (fv 49), (fv 50), (fv 51), (fv 52), (fv 53), (fv 54), (fv 55), (fv 56), (fv 57), (fv 58), .ref (ma 59), .ref (ma 60), (fv 61), (fv 62), .int (nI 1), .int (nI 0), .int 0, .int rv, .ref (ma 67), .ref (ma 68), .ref (ma 69), .int 1, (fv 71), .int 0, .ref (ma 73)])), ((ma 39), .inl (cy 1, 3400, .inl kf)), ((ma 40), .inl (cy 1, 3400, .inl af)), ((ma 46), .inl (cy 2, 3400, .inr (.inl nf))), ((ma 23), .inl (cy 1, 16, .inl tm)), ((ma 24), .inl (cy 1, 128, .inl mkf)), ((ma 25), .inl (cy 2, 128, .inr (.inl mnf))), ((ma 29), .inl (cy 1, 128, .inl mbf)), ((ma 68), .inl (cy 1, 210, .inl f7)), ((ma 17), .inl (cy 1, 2, .inl ym)), ((ma 30), .inl (cy 1, 128, .inl mpf)), ((ma 59), .inl (cy 1, 16, .inl k4)), ((ma 22), .inl (cy 1, 16, .inl tuf)), ((ma 37), .inl (cy 1, 128, .inl mtf)), ((ma 33), .inl (cy 1, 128, .inl mlf)), ((ma 69), .inl (cy 1, 13440, .inl fk)), ((ma 67), .inl (cy 1, 78, .inl prf))] := hD
      refine lv_aload_n hx hb dX12_makes_83 rfl (lv_at hl 1 rfl) ?_
      refine lv_iload_n hx hb dX12_makes_84 rfl (lv_at hl 3 rfl) ?_
      refine lv_iload_n hx hb dX12_makes_85 rfl (lv_at hl 4 rfl) ?_
      refine lv_iload hx hb dX12_makes_86 (lv_at hl 5 rfl) ?_
      refine lv_iload hx hb dX12_makes_88 (lv_at hl 6 rfl) ?_
      have hP : va_P D vwCl [(hm, .inr (12, [.int cd, .ref (ma 1), (fv 2), (fv 3), .ref (ma 4), (fv 5), (fv 6), (fv 7), (fv 8), (fv 9), (fv 10), (fv 11), (fv 12), (fv 13), (fv 14), .int 1, (fv 16), .ref (ma 17), .ref (ma 18), .ref (ma 19), .ref (ma 20), .ref (ma 21), .ref (ma 22), .ref (ma 23), .ref (ma 24), .ref (ma 25), .ref (ma 26), .ref (ma 27), .ref (ma 28), .ref (ma 29), .ref (ma 30), .ref (ma 31), .ref (ma 32), .ref (ma 33), .ref (ma 34), .ref (ma 35), .ref (ma 36), .ref (ma 37), .ref (ma 38), .ref (ma 39), .ref (ma 40), .ref (ma 41), .ref (ma 42), .ref (ma 43), .ref (ma 44), .ref (ma 45), .ref (ma 46), .ref (ma 47), .ref (ma 48), (fv 49), (fv 50), (fv 51), (fv 52), (fv 53), (fv 54), (fv 55), (fv 56), (fv 57), (fv 58), .ref (ma 59), .ref (ma 60), (fv 61), (fv 62), .int (nI 1), .int (nI 0), .int 0, .int rv, .ref (ma 67), .ref (ma 68), .ref (ma 69), .int 1, (fv 71), .int (nI 0), .ref (ma 73)])), ((ma 39), .inl (cy 1, 3400, .inl kf)), ((ma 40), .inl (cy 1, 3400, .inl af)), ((ma 46), .inl (cy 2, 3400, .inr (.inl nf))), ((ma 23), .inl (cy 1, 16, .inl tm)), ((ma 24), .inl (cy 1, 128, .inl mkf)), ((ma 25), .inl (cy 2, 128, .inr (.inl mnf))), ((ma 29), .inl (cy 1, 128, .inl mbf)), ((ma 68), .inl (cy 1, 210, .inl f7)), ((ma 17), .inl (cy 1, 2, .inl ym)), ((ma 30), .inl (cy 1, 128, .inl mpf)), ((ma 59), .inl (cy 1, 16, .inl k4)), ((ma 22), .inl (cy 1, 16, .inl tuf)), ((ma 37), .inl (cy 1, 128, .inl mtf)), ((ma 33), .inl (cy 1, 128, .inl mlf)), ((ma 69), .inl (cy 1, 13440, .inl fk)), ((ma 67), .inl (cy 1, 78, .inl prf))] H := hP
      have hD : va_D A [(hm, .inr (12, [.int cd, .ref (ma 1), (fv 2), (fv 3), .ref (ma 4), (fv 5), (fv 6), (fv 7), (fv 8), (fv 9), (fv 10), (fv 11), (fv 12), (fv 13), (fv 14), .int 1, (fv 16), .ref (ma 17), .ref (ma 18), .ref (ma 19), .ref (ma 20), .ref (ma 21), .ref (ma 22), .ref (ma 23), .ref (ma 24), .ref (ma 25), .ref (ma 26), .ref (ma 27), .ref (ma 28), .ref (ma 29), .ref (ma 30), .ref (ma 31), .ref (ma 32), .ref (ma 33), .ref (ma 34), .ref (ma 35), .ref (ma 36), .ref (ma 37), .ref (ma 38), .ref (ma 39), .ref (ma 40), .ref (ma 41), .ref (ma 42), .ref (ma 43), .ref (ma 44), .ref (ma 45), .ref (ma 46), .ref (ma 47), .ref (ma 48), (fv 49), (fv 50), (fv 51), (fv 52), (fv 53), (fv 54), (fv 55), (fv 56), (fv 57), (fv 58), .ref (ma 59), .ref (ma 60), (fv 61), (fv 62), .int (nI 1), .int (nI 0), .int 0, .int rv, .ref (ma 67), .ref (ma 68), .ref (ma 69), .int 1, (fv 71), .int (nI 0), .ref (ma 73)])), ((ma 39), .inl (cy 1, 3400, .inl kf)), ((ma 40), .inl (cy 1, 3400, .inl af)), ((ma 46), .inl (cy 2, 3400, .inr (.inl nf))), ((ma 23), .inl (cy 1, 16, .inl tm)), ((ma 24), .inl (cy 1, 128, .inl mkf)), ((ma 25), .inl (cy 2, 128, .inr (.inl mnf))), ((ma 29), .inl (cy 1, 128, .inl mbf)), ((ma 68), .inl (cy 1, 210, .inl f7)), ((ma 17), .inl (cy 1, 2, .inl ym)), ((ma 30), .inl (cy 1, 128, .inl mpf)), ((ma 59), .inl (cy 1, 16, .inl k4)), ((ma 22), .inl (cy 1, 16, .inl tuf)), ((ma 37), .inl (cy 1, 128, .inl mtf)), ((ma 33), .inl (cy 1, 128, .inl mlf)), ((ma 69), .inl (cy 1, 13440, .inl fk)), ((ma 67), .inl (cy 1, 78, .inl prf))] := hD
      have hPc := hP.sub (ws' := [(hm, .inr (12, [.int cd, .ref (ma 1), (fv 2), (fv 3), .ref (ma 4), (fv 5), (fv 6), (fv 7), (fv 8), (fv 9), (fv 10), (fv 11), (fv 12), (fv 13), (fv 14), .int 1, (fv 16), .ref (ma 17), .ref (ma 18), .ref (ma 19), .ref (ma 20), .ref (ma 21), .ref (ma 22), .ref (ma 23), .ref (ma 24), .ref (ma 25), .ref (ma 26), .ref (ma 27), .ref (ma 28), .ref (ma 29), .ref (ma 30), .ref (ma 31), .ref (ma 32), .ref (ma 33), .ref (ma 34), .ref (ma 35), .ref (ma 36), .ref (ma 37), .ref (ma 38), .ref (ma 39), .ref (ma 40), .ref (ma 41), .ref (ma 42), .ref (ma 43), .ref (ma 44), .ref (ma 45), .ref (ma 46), .ref (ma 47), .ref (ma 48), (fv 49), (fv 50), (fv 51), (fv 52), (fv 53), (fv 54), (fv 55), (fv 56), (fv 57), (fv 58), .ref (ma 59), .ref (ma 60), (fv 61), (fv 62), .int (nI 1), .int (nI 0), .int 0, .int rv, .ref (ma 67), .ref (ma 68), .ref (ma 69), .int 1, (fv 71), .int (nI 0), .ref (ma 73)])), ((ma 39), .inl (cy 1, 3400, .inl kf)), ((ma 40), .inl (cy 1, 3400, .inl af)), ((ma 46), .inl (cy 2, 3400, .inr (.inl nf))), ((ma 23), .inl (cy 1, 16, .inl tm)), ((ma 24), .inl (cy 1, 128, .inl mkf)), ((ma 25), .inl (cy 2, 128, .inr (.inl mnf))), ((ma 29), .inl (cy 1, 128, .inl mbf)), ((ma 68), .inl (cy 1, 210, .inl f7)), ((ma 17), .inl (cy 1, 2, .inl ym)), ((ma 30), .inl (cy 1, 128, .inl mpf)), ((ma 59), .inl (cy 1, 16, .inl k4)), ((ma 22), .inl (cy 1, 16, .inl tuf)), ((ma 37), .inl (cy 1, 128, .inl mtf)), ((ma 33), .inl (cy 1, 128, .inl mlf)), ((ma 69), .inl (cy 1, 13440, .inl fk)), ((ma 67), .inl (cy 1, 78, .inl prf))]) [0, 1, 2, 3, 4, 5, 6, 7, 8, 9, 10, 11, 12, 13, 14, 15, 16] rfl
      have hDc := hD.sub (ws' := [(hm, .inr (12, [.int cd, .ref (ma 1), (fv 2), (fv 3), .ref (ma 4), (fv 5), (fv 6), (fv 7), (fv 8), (fv 9), (fv 10), (fv 11), (fv 12), (fv 13), (fv 14), .int 1, (fv 16), .ref (ma 17), .ref (ma 18), .ref (ma 19), .ref (ma 20), .ref (ma 21), .ref (ma 22), .ref (ma 23), .ref (ma 24), .ref (ma 25), .ref (ma 26), .ref (ma 27), .ref (ma 28), .ref (ma 29), .ref (ma 30), .ref (ma 31), .ref (ma 32), .ref (ma 33), .ref (ma 34), .ref (ma 35), .ref (ma 36), .ref (ma 37), .ref (ma 38), .ref (ma 39), .ref (ma 40), .ref (ma 41), .ref (ma 42), .ref (ma 43), .ref (ma 44), .ref (ma 45), .ref (ma 46), .ref (ma 47), .ref (ma 48), (fv 49), (fv 50), (fv 51), (fv 52), (fv 53), (fv 54), (fv 55), (fv 56), (fv 57), (fv 58), .ref (ma 59), .ref (ma 60), (fv 61), (fv 62), .int (nI 1), .int (nI 0), .int 0, .int rv, .ref (ma 67), .ref (ma 68), .ref (ma 69), .int 1, (fv 71), .int (nI 0), .ref (ma 73)])), ((ma 39), .inl (cy 1, 3400, .inl kf)), ((ma 40), .inl (cy 1, 3400, .inl af)), ((ma 46), .inl (cy 2, 3400, .inr (.inl nf))), ((ma 23), .inl (cy 1, 16, .inl tm)), ((ma 24), .inl (cy 1, 128, .inl mkf)), ((ma 25), .inl (cy 2, 128, .inr (.inl mnf))), ((ma 29), .inl (cy 1, 128, .inl mbf)), ((ma 68), .inl (cy 1, 210, .inl f7)), ((ma 17), .inl (cy 1, 2, .inl ym)), ((ma 30), .inl (cy 1, 128, .inl mpf)), ((ma 59), .inl (cy 1, 16, .inl k4)), ((ma 22), .inl (cy 1, 16, .inl tuf)), ((ma 37), .inl (cy 1, 128, .inl mtf)), ((ma 33), .inl (cy 1, 128, .inl mlf)), ((ma 69), .inl (cy 1, 13440, .inl fk)), ((ma 67), .inl (cy 1, 78, .inl prf))]) [0, 1, 2, 3, 4, 5, 6, 7, 8, 9, 10, 11, 12, 13, 14, 15, 16] (by decide) rfl
      exact va_dieV  (As := [.int 65, .int 0, .int 0, .int 0]) (rest := []) ⟨hx, hb, hml, hown, hT⟩ (fun k h9 => hN k h9 H.size k4 fk f7 htt0) (cwV 4 hT (gTBV t_2221 t_2223 t_133 t_153 t_2224) rfl rfl rfl (by decide +kernel) ⟨by decide, by decide⟩) ⟨fun a U g mk q => by obtain ⟨q0, q1, qP, qK, qD⟩ := q; exact ⟨q0, q1, qP, va_K.moved (u := U) (U := U.calling g mk a) (Vm.Alike.refl U.vm) qK, qD⟩, va_recv hK hP (ci := 12) (q0 := 0) rfl rfl, fun U hU hW => ⟨rfl, by rw [hU], by rw [hU]; exact hPc, va_K.moved hW.alike hK, hDc.weaken (fun _ _ _ _ => trivial)⟩⟩ hex hmc hlocks htg rfl rfl hl.1 rfl (lv_room (Nat.le_of_ble_eq_true rfl)) dX12_makes_90 rfl rfl (Nat.le_of_ble_eq_true rfl) (Nat.le_of_ble_eq_true rfl)
    · rintro n ⟨i, fk⟩ H locs ls ⟨hi, hP, hD, hS, hl⟩ ih
      dsimp only at hi hP hD hl
      refine lv_iload hx hb dX12_makes_50 (lv_at hl 0 rfl) ?_
      refine lv_bipush (v := 64) hx hb dX12_makes_52 (by decide) ?_
      refine lv_icmp_ge (tgt := 77) hx hb dX12_makes_54 (by decide) (fun c9 => absurd c9 (nI_ge (a := i) (b := 64) (by omega) (by decide))) (fun _ => ?_)
      refine lv_aload_n hx hb dX12_makes_57 rfl (lv_at hl 1 rfl) ?_
      refine va_get (D := D) (ci := 12) (v := .ref (ma 69)) (C := RX12) (T := TX12) (N := 74) hx hb hT i_TX12 hown hK hP 0 rfl rfl 69 (by decide) (hT _ t_1784) (fun _ h9 => h9) rfl dX12_makes_58 ?_
      refine lv_bipush (v := 64) hx hb dX12_makes_61 (by decide) ?_
      refine lv_iload hx hb dX12_makes_63 (lv_at hl 7 rfl) ?_
      refine lv_imul hx hb dX12_makes_65 ?_
      refine lv_topi (fun z8 e9 => ?_)
      obtain rfl : z8 = 0 := e9.trans (by first | decide | rfl)
      refine lv_iload hx hb dX12_makes_66 (lv_at hl 0 rfl) ?_
      refine lv_iadd hx hb dX12_makes_68 ?_
      refine lv_topi (fun z10 e11 => ?_)
      obtain rfl : z10 = (nI i) := e11.trans (Int32.zero_add _)
      refine lv_iconst (v := 0) hx hb dX12_makes_69 (by decide) ?_
      refine va_iast hx hb hK hP hD hS 15 1 rfl rfl (vp_in_nI (by omega) (by decide)) dX12_makes_70 (fun H locs hP hD hS => ?_)
      have hP : va_P D vwCl [(hm, .inr (12, [.int cd, .ref (ma 1), (fv 2), (fv 3), .ref (ma 4), (fv 5), (fv 6), (fv 7), (fv 8), (fv 9), (fv 10), (fv 11), (fv 12), (fv 13), (fv 14), .int 1, (fv 16), .ref (ma 17), .ref (ma 18), .ref (ma 19), .ref (ma 20), .ref (ma 21), .ref (ma 22), .ref (ma 23), .ref (ma 24), .ref (ma 25), .ref (ma 26), .ref (ma 27), .ref (ma 28), .ref (ma 29), .ref (ma 30), .ref (ma 31), .ref (ma 32), .ref (ma 33), .ref (ma 34), .ref (ma 35), .ref (ma 36), .ref (ma 37), .ref (ma 38), .ref (ma 39), .ref (ma 40), .ref (ma 41), .ref (ma 42), .ref (ma 43), .ref (ma 44), .ref (ma 45), .ref (ma 46), .ref (ma 47), .ref (ma 48), (fv 49), (fv 50), (fv 51), (fv 52), (fv 53), (fv 54), (fv 55), (fv 56), (fv 57), (fv 58), .ref (ma 59), .ref (ma 60), (fv 61), (fv 62), .int (nI 1), .int (nI 0), .int 0, .int rv, .ref (ma 67), .ref (ma 68), .ref (ma 69), .int 1, (fv 71), .int (nI 0), .ref (ma 73)])), ((ma 39), .inl (cy 1, 3400, .inl kf)), ((ma 40), .inl (cy 1, 3400, .inl af)), ((ma 46), .inl (cy 2, 3400, .inr (.inl nf))), ((ma 23), .inl (cy 1, 16, .inl tm)), ((ma 24), .inl (cy 1, 128, .inl mkf)), ((ma 25), .inl (cy 2, 128, .inr (.inl mnf))), ((ma 29), .inl (cy 1, 128, .inl mbf)), ((ma 68), .inl (cy 1, 210, .inl f7)), ((ma 17), .inl (cy 1, 2, .inl ym)), ((ma 30), .inl (cy 1, 128, .inl mpf)), ((ma 59), .inl (cy 1, 16, .inl k4)), ((ma 22), .inl (cy 1, 16, .inl tuf)), ((ma 37), .inl (cy 1, 128, .inl mtf)), ((ma 33), .inl (cy 1, 128, .inl mlf)), ((ma 69), .inl (cy 1, 13440, .inl (upd fk ((nI i) : Int32).toNatClampNeg 0))), ((ma 67), .inl (cy 1, 78, .inl prf))] H := hP
      have hD : va_D A [(hm, .inr (12, [.int cd, .ref (ma 1), (fv 2), (fv 3), .ref (ma 4), (fv 5), (fv 6), (fv 7), (fv 8), (fv 9), (fv 10), (fv 11), (fv 12), (fv 13), (fv 14), .int 1, (fv 16), .ref (ma 17), .ref (ma 18), .ref (ma 19), .ref (ma 20), .ref (ma 21), .ref (ma 22), .ref (ma 23), .ref (ma 24), .ref (ma 25), .ref (ma 26), .ref (ma 27), .ref (ma 28), .ref (ma 29), .ref (ma 30), .ref (ma 31), .ref (ma 32), .ref (ma 33), .ref (ma 34), .ref (ma 35), .ref (ma 36), .ref (ma 37), .ref (ma 38), .ref (ma 39), .ref (ma 40), .ref (ma 41), .ref (ma 42), .ref (ma 43), .ref (ma 44), .ref (ma 45), .ref (ma 46), .ref (ma 47), .ref (ma 48), (fv 49), (fv 50), (fv 51), (fv 52), (fv 53), (fv 54), (fv 55), (fv 56), (fv 57), (fv 58), .ref (ma 59), .ref (ma 60), (fv 61), (fv 62), .int (nI 1), .int (nI 0), .int 0, .int rv, .ref (ma 67), .ref (ma 68), .ref (ma 69), .int 1, (fv 71), .int (nI 0), .ref (ma 73)])), ((ma 39), .inl (cy 1, 3400, .inl kf)), ((ma 40), .inl (cy 1, 3400, .inl af)), ((ma 46), .inl (cy 2, 3400, .inr (.inl nf))), ((ma 23), .inl (cy 1, 16, .inl tm)), ((ma 24), .inl (cy 1, 128, .inl mkf)), ((ma 25), .inl (cy 2, 128, .inr (.inl mnf))), ((ma 29), .inl (cy 1, 128, .inl mbf)), ((ma 68), .inl (cy 1, 210, .inl f7)), ((ma 17), .inl (cy 1, 2, .inl ym)), ((ma 30), .inl (cy 1, 128, .inl mpf)), ((ma 59), .inl (cy 1, 16, .inl k4)), ((ma 22), .inl (cy 1, 16, .inl tuf)), ((ma 37), .inl (cy 1, 128, .inl mtf)), ((ma 33), .inl (cy 1, 128, .inl mlf)), ((ma 69), .inl (cy 1, 13440, .inl (upd fk ((nI i) : Int32).toNatClampNeg 0))), ((ma 67), .inl (cy 1, 78, .inl prf))] := hD
      generalize hff12 : (upd fk ((nI i) : Int32).toNatClampNeg 0) = f12 at hP hD
      obtain ⟨z13, e14⟩ : ∃ y : Int32, y = (nI i) + 1 := ⟨_, rfl⟩
      refine lv_iinc (v := z13) (lv' := [(7, .int z13), (0, .ref hm), (1, .int 8), (2, .int 65), (3, .int 0), (4, .int 0), (5, .int 0), (6, .int 0)]) hx hb dX12_makes_71 hl (k := 0) rfl (by rw [e14]; rfl) (by decide) rfl (fun ls hl => ?_)
      obtain rfl : z13 = nI (i + 1) := e14.trans (nI_1 i)
      refine lv_goto (tgt := 50) hx hb dX12_makes_74 (by decide) ?_
      exact ih (i + 1, f12) H locs ls ⟨show i + 1 + n = 64 by omega, hP, hD, hS, lv_sub hl [0, 1, 2, 3, 4, 5, 6, 7] rfl⟩

set_option maxHeartbeats 4000000 in
set_option maxRecDepth 100000 in
theorem e_make (l : Launch) (D : va_G) (cy : Nat → ClassId) (sz : Nat) (hm : Nat) (ma : Nat → Nat) (fv : Nat → Value) (kf : Nat → Int32) (af : Nat → Int32) (nf : Nat → Int64) (tm : Nat → Int32) (mkf : Nat → Int32) (mnf : Nat → Int64) (mbf : Nat → Int32) (ttf : Nat → Int32) (kn : Nat → Nat) (nn : Nat) (se : Nat) (tt : Nat) (bb : Nat) (ss : Nat) (nm : Int64) (st : Nat) (dp : Nat) (rv : Int32) (cd : Int32) (md : Int32) (hf : Int32) (mb : Nat) (ms : Nat) (mx : Nat) (ym : Nat → Int32) (mpf : Nat → Int32) (tsf : Nat → Int32) (tuf : Nat → Int32) (mtf : Nat → Int32) (mlf : Nat → Int32) (ccf : Nat → Int32) (prf : Nat → Int32) (d : Nat) (hk : Mk kf af nf tm mkf mbf ym mpf tuf mtf mlf nm mb ms mx) (hN : ∀ k, d = k + 1 → ∀ (sz : Nat), Dies l yX12_makes (.code yX12_makes cX12_makes 8 (some .int) :: TB) k (va_Pc [.ref hm, .int 8, .int 65, .int 0, .int 0, .int 0] (fun U => U.heap.size = sz ∧ va_P D vwCl [(hm, .inr (12, [.int 0, .ref (ma 1), (fv 2), (fv 3), .ref (ma 4), (fv 5), (fv 6), (fv 7), (fv 8), (fv 9), (fv 10), (fv 11), (fv 12), (fv 13), (fv 14), .int 1, (fv 16), .ref (ma 17), .ref (ma 18), .ref (ma 19), .ref (ma 20), .ref (ma 21), .ref (ma 22), .ref (ma 23), .ref (ma 24), .ref (ma 25), .ref (ma 26), .ref (ma 27), .ref (ma 28), .ref (ma 29), .ref (ma 30), .ref (ma 31), .ref (ma 32), .ref (ma 33), .ref (ma 34), .ref (ma 35), .ref (ma 36), .ref (ma 37), .ref (ma 38), .ref (ma 39), .ref (ma 40), .ref (ma 41), .ref (ma 42), .ref (ma 43), .ref (ma 44), .ref (ma 45), .ref (ma 46), .ref (ma 47), .ref (ma 48), (fv 49), (fv 50), (fv 51), (fv 52), (fv 53), (fv 54), (fv 55), (fv 56), (fv 57), (fv 58), .ref (ma 59), .ref (ma 60), (fv 61), (fv 62), .int (nI 0), .int (nI 0), .int 0, .int rv, .ref (ma 67), .ref (ma 68), .ref (ma 69), .int 0, (fv 71), .int (nI 0), .ref (ma 73)])), ((ma 39), .inl (cy 1, 3400, .inl kf)), ((ma 40), .inl (cy 1, 3400, .inl af)), ((ma 46), .inl (cy 2, 3400, .inr (.inl nf))), ((ma 23), .inl (cy 1, 16, .inl tm)), ((ma 24), .inl (cy 1, 128, .inl mkf)), ((ma 25), .inl (cy 2, 128, .inr (.inl mnf))), ((ma 29), .inl (cy 1, 128, .inl mbf)), ((ma 68), .inl (cy 1, 210, .inl ttf)), ((ma 17), .inl (cy 1, 2, .inl ym)), ((ma 30), .inl (cy 1, 128, .inl mpf)), ((ma 59), .inl (cy 1, 16, .inl tsf)), ((ma 22), .inl (cy 1, 16, .inl tuf)), ((ma 37), .inl (cy 1, 128, .inl mtf)), ((ma 33), .inl (cy 1, 128, .inl mlf)), ((ma 69), .inl (cy 1, 13440, .inl ccf)), ((ma 67), .inl (cy 1, 78, .inl prf))] U.heap ∧ va_K D vwCl (TY cy) U ∧ va_D (fun _ => True) [(hm, .inr (12, [.int 0, .ref (ma 1), (fv 2), (fv 3), .ref (ma 4), (fv 5), (fv 6), (fv 7), (fv 8), (fv 9), (fv 10), (fv 11), (fv 12), (fv 13), (fv 14), .int 1, (fv 16), .ref (ma 17), .ref (ma 18), .ref (ma 19), .ref (ma 20), .ref (ma 21), .ref (ma 22), .ref (ma 23), .ref (ma 24), .ref (ma 25), .ref (ma 26), .ref (ma 27), .ref (ma 28), .ref (ma 29), .ref (ma 30), .ref (ma 31), .ref (ma 32), .ref (ma 33), .ref (ma 34), .ref (ma 35), .ref (ma 36), .ref (ma 37), .ref (ma 38), .ref (ma 39), .ref (ma 40), .ref (ma 41), .ref (ma 42), .ref (ma 43), .ref (ma 44), .ref (ma 45), .ref (ma 46), .ref (ma 47), .ref (ma 48), (fv 49), (fv 50), (fv 51), (fv 52), (fv 53), (fv 54), (fv 55), (fv 56), (fv 57), (fv 58), .ref (ma 59), .ref (ma 60), (fv 61), (fv 62), .int (nI 0), .int (nI 0), .int 0, .int rv, .ref (ma 67), .ref (ma 68), .ref (ma 69), .int 0, (fv 71), .int (nI 0), .ref (ma 73)])), ((ma 39), .inl (cy 1, 3400, .inl kf)), ((ma 40), .inl (cy 1, 3400, .inl af)), ((ma 46), .inl (cy 2, 3400, .inr (.inl nf))), ((ma 23), .inl (cy 1, 16, .inl tm)), ((ma 24), .inl (cy 1, 128, .inl mkf)), ((ma 25), .inl (cy 2, 128, .inr (.inl mnf))), ((ma 29), .inl (cy 1, 128, .inl mbf)), ((ma 68), .inl (cy 1, 210, .inl ttf)), ((ma 17), .inl (cy 1, 2, .inl ym)), ((ma 30), .inl (cy 1, 128, .inl mpf)), ((ma 59), .inl (cy 1, 16, .inl tsf)), ((ma 22), .inl (cy 1, 16, .inl tuf)), ((ma 37), .inl (cy 1, 128, .inl mtf)), ((ma 33), .inl (cy 1, 128, .inl mlf)), ((ma 69), .inl (cy 1, 13440, .inl ccf)), ((ma 67), .inl (cy 1, 78, .inl prf))]))) : Dies l yX12_make (.code yX12_make cX12_make 8 (some .int) :: TB) d (va_Pc [.ref hm, .int 0, .int 0, .int 0, .int 0, .int 0] (fun U => U.heap.size = sz ∧ va_P D vwCl [(hm, .inr (12, [.int cd, .ref (ma 1), (fv 2), (fv 3), .ref (ma 4), (fv 5), (fv 6), (fv 7), (fv 8), (fv 9), (fv 10), (fv 11), (fv 12), (fv 13), (fv 14), .int 1, (fv 16), .ref (ma 17), .ref (ma 18), .ref (ma 19), .ref (ma 20), .ref (ma 21), .ref (ma 22), .ref (ma 23), .ref (ma 24), .ref (ma 25), .ref (ma 26), .ref (ma 27), .ref (ma 28), .ref (ma 29), .ref (ma 30), .ref (ma 31), .ref (ma 32), .ref (ma 33), .ref (ma 34), .ref (ma 35), .ref (ma 36), .ref (ma 37), .ref (ma 38), .ref (ma 39), .ref (ma 40), .ref (ma 41), .ref (ma 42), .ref (ma 43), .ref (ma 44), .ref (ma 45), .ref (ma 46), .ref (ma 47), .ref (ma 48), (fv 49), (fv 50), (fv 51), (fv 52), (fv 53), (fv 54), (fv 55), (fv 56), (fv 57), (fv 58), .ref (ma 59), .ref (ma 60), (fv 61), (fv 62), .int (nI 0), .int (nI 0), .int 0, .int rv, .ref (ma 67), .ref (ma 68), .ref (ma 69), .int 0, (fv 71), .int (nI 0), .ref (ma 73)])), ((ma 39), .inl (cy 1, 3400, .inl kf)), ((ma 40), .inl (cy 1, 3400, .inl af)), ((ma 46), .inl (cy 2, 3400, .inr (.inl nf))), ((ma 23), .inl (cy 1, 16, .inl tm)), ((ma 24), .inl (cy 1, 128, .inl mkf)), ((ma 25), .inl (cy 2, 128, .inr (.inl mnf))), ((ma 29), .inl (cy 1, 128, .inl mbf)), ((ma 68), .inl (cy 1, 210, .inl ttf)), ((ma 17), .inl (cy 1, 2, .inl ym)), ((ma 30), .inl (cy 1, 128, .inl mpf)), ((ma 59), .inl (cy 1, 16, .inl tsf)), ((ma 22), .inl (cy 1, 16, .inl tuf)), ((ma 37), .inl (cy 1, 128, .inl mtf)), ((ma 33), .inl (cy 1, 128, .inl mlf)), ((ma 69), .inl (cy 1, 13440, .inl ccf)), ((ma 67), .inl (cy 1, 78, .inl prf))] U.heap ∧ va_K D vwCl (TY cy) U ∧ va_D (fun _ => True) [(hm, .inr (12, [.int cd, .ref (ma 1), (fv 2), (fv 3), .ref (ma 4), (fv 5), (fv 6), (fv 7), (fv 8), (fv 9), (fv 10), (fv 11), (fv 12), (fv 13), (fv 14), .int 1, (fv 16), .ref (ma 17), .ref (ma 18), .ref (ma 19), .ref (ma 20), .ref (ma 21), .ref (ma 22), .ref (ma 23), .ref (ma 24), .ref (ma 25), .ref (ma 26), .ref (ma 27), .ref (ma 28), .ref (ma 29), .ref (ma 30), .ref (ma 31), .ref (ma 32), .ref (ma 33), .ref (ma 34), .ref (ma 35), .ref (ma 36), .ref (ma 37), .ref (ma 38), .ref (ma 39), .ref (ma 40), .ref (ma 41), .ref (ma 42), .ref (ma 43), .ref (ma 44), .ref (ma 45), .ref (ma 46), .ref (ma 47), .ref (ma 48), (fv 49), (fv 50), (fv 51), (fv 52), (fv 53), (fv 54), (fv 55), (fv 56), (fv 57), (fv 58), .ref (ma 59), .ref (ma 60), (fv 61), (fv 62), .int (nI 0), .int (nI 0), .int 0, .int rv, .ref (ma 67), .ref (ma 68), .ref (ma 69), .int 0, (fv 71), .int (nI 0), .ref (ma 73)])), ((ma 39), .inl (cy 1, 3400, .inl kf)), ((ma 40), .inl (cy 1, 3400, .inl af)), ((ma 46), .inl (cy 2, 3400, .inr (.inl nf))), ((ma 23), .inl (cy 1, 16, .inl tm)), ((ma 24), .inl (cy 1, 128, .inl mkf)), ((ma 25), .inl (cy 2, 128, .inr (.inl mnf))), ((ma 29), .inl (cy 1, 128, .inl mbf)), ((ma 68), .inl (cy 1, 210, .inl ttf)), ((ma 17), .inl (cy 1, 2, .inl ym)), ((ma 30), .inl (cy 1, 128, .inl mpf)), ((ma 59), .inl (cy 1, 16, .inl tsf)), ((ma 22), .inl (cy 1, 16, .inl tuf)), ((ma 37), .inl (cy 1, 128, .inl mtf)), ((ma 33), .inl (cy 1, 128, .inl mlf)), ((ma 69), .inl (cy 1, 13440, .inl ccf)), ((ma 67), .inl (cy 1, 78, .inl prf))])) := by
  refine Dies.ofW (cc := cX12_make) (maxL := 8) (ret := (some .int)) (by decide) rfl ?_
  intro p e s m args below meth c s₁ B hml hex hmc htg hv
  obtain ⟨rfl, hsz, hP, hK, hD0⟩ := hv
  have hx := B.exec
  have hb := B.bytes
  have hr := B.returns
  have hts := atoms_spec (ws := .code yX12_make cX12_make 8 (some .int) :: TB) B.pre
  have hT : ∀ w ∈ TB, w.before _ s = true := fun w h => hts w (List.mem_cons_of_mem _ h)
  have hown : s.vm.findClass "MakerStartsModel" = some m.cls := findClass_of_methodNamed B.named
  have hlocks := B.notSynchronized
  subst hsz
  have hD := hD0.self (sz := s.heap.size)
  generalize hAe : va_A [(hm, .inr (12, [.int cd, .ref (ma 1), (fv 2), (fv 3), .ref (ma 4), (fv 5), (fv 6), (fv 7), (fv 8), (fv 9), (fv 10), (fv 11), (fv 12), (fv 13), (fv 14), .int 1, (fv 16), .ref (ma 17), .ref (ma 18), .ref (ma 19), .ref (ma 20), .ref (ma 21), .ref (ma 22), .ref (ma 23), .ref (ma 24), .ref (ma 25), .ref (ma 26), .ref (ma 27), .ref (ma 28), .ref (ma 29), .ref (ma 30), .ref (ma 31), .ref (ma 32), .ref (ma 33), .ref (ma 34), .ref (ma 35), .ref (ma 36), .ref (ma 37), .ref (ma 38), .ref (ma 39), .ref (ma 40), .ref (ma 41), .ref (ma 42), .ref (ma 43), .ref (ma 44), .ref (ma 45), .ref (ma 46), .ref (ma 47), .ref (ma 48), (fv 49), (fv 50), (fv 51), (fv 52), (fv 53), (fv 54), (fv 55), (fv 56), (fv 57), (fv 58), .ref (ma 59), .ref (ma 60), (fv 61), (fv 62), .int (nI 0), .int (nI 0), .int 0, .int rv, .ref (ma 67), .ref (ma 68), .ref (ma 69), .int 0, (fv 71), .int (nI 0), .ref (ma 73)])), ((ma 39), .inl (cy 1, 3400, .inl kf)), ((ma 40), .inl (cy 1, 3400, .inl af)), ((ma 46), .inl (cy 2, 3400, .inr (.inl nf))), ((ma 23), .inl (cy 1, 16, .inl tm)), ((ma 24), .inl (cy 1, 128, .inl mkf)), ((ma 25), .inl (cy 2, 128, .inr (.inl mnf))), ((ma 29), .inl (cy 1, 128, .inl mbf)), ((ma 68), .inl (cy 1, 210, .inl ttf)), ((ma 17), .inl (cy 1, 2, .inl ym)), ((ma 30), .inl (cy 1, 128, .inl mpf)), ((ma 59), .inl (cy 1, 16, .inl tsf)), ((ma 22), .inl (cy 1, 16, .inl tuf)), ((ma 37), .inl (cy 1, 128, .inl mtf)), ((ma 33), .inl (cy 1, 128, .inl mlf)), ((ma 69), .inl (cy 1, 13440, .inl ccf)), ((ma 67), .inl (cy 1, 78, .inl prf))] s.heap.size = A at hD  ⊢
  have hA : ∀ q : Nat, s.heap.size ≤ q → A q := fun q h => by rw [← hAe]; exact Or.inr h
  have hS : va_S A s.heap s.heap [] := va_S.rf
  have hP : va_P D vwCl [(hm, .inr (12, [.int cd, .ref (ma 1), (fv 2), (fv 3), .ref (ma 4), (fv 5), (fv 6), (fv 7), (fv 8), (fv 9), (fv 10), (fv 11), (fv 12), (fv 13), (fv 14), .int 1, (fv 16), .ref (ma 17), .ref (ma 18), .ref (ma 19), .ref (ma 20), .ref (ma 21), .ref (ma 22), .ref (ma 23), .ref (ma 24), .ref (ma 25), .ref (ma 26), .ref (ma 27), .ref (ma 28), .ref (ma 29), .ref (ma 30), .ref (ma 31), .ref (ma 32), .ref (ma 33), .ref (ma 34), .ref (ma 35), .ref (ma 36), .ref (ma 37), .ref (ma 38), .ref (ma 39), .ref (ma 40), .ref (ma 41), .ref (ma 42), .ref (ma 43), .ref (ma 44), .ref (ma 45), .ref (ma 46), .ref (ma 47), .ref (ma 48), (fv 49), (fv 50), (fv 51), (fv 52), (fv 53), (fv 54), (fv 55), (fv 56), (fv 57), (fv 58), .ref (ma 59), .ref (ma 60), (fv 61), (fv 62), .int (nI 0), .int (nI 0), .int 0, .int rv, .ref (ma 67), .ref (ma 68), .ref (ma 69), .int 0, (fv 71), .int (nI 0), .ref (ma 73)])), ((ma 39), .inl (cy 1, 3400, .inl kf)), ((ma 40), .inl (cy 1, 3400, .inl af)), ((ma 46), .inl (cy 2, 3400, .inr (.inl nf))), ((ma 23), .inl (cy 1, 16, .inl tm)), ((ma 24), .inl (cy 1, 128, .inl mkf)), ((ma 25), .inl (cy 2, 128, .inr (.inl mnf))), ((ma 29), .inl (cy 1, 128, .inl mbf)), ((ma 68), .inl (cy 1, 210, .inl ttf)), ((ma 17), .inl (cy 1, 2, .inl ym)), ((ma 30), .inl (cy 1, 128, .inl mpf)), ((ma 59), .inl (cy 1, 16, .inl tsf)), ((ma 22), .inl (cy 1, 16, .inl tuf)), ((ma 37), .inl (cy 1, 128, .inl mtf)), ((ma 33), .inl (cy 1, 128, .inl mlf)), ((ma 69), .inl (cy 1, 13440, .inl ccf)), ((ma 67), .inl (cy 1, 78, .inl prf))] s.heap := hP
  have hl := lv_entry ([.ref hm, .int 0, .int 0, .int 0, .int 0, .int 0]) (n := 8) (Nat.le_of_ble_eq_true rfl)
  rw [lg_entry_eq]
  generalize (lg_sl ([.ref hm, .int 0, .int 0, .int 0, .int 0, .int 0]) ++ List.replicate (8 - (lg_sl ([.ref hm, .int 0, .int 0, .int 0, .int 0, .int 0])).length) Slot.unset).toArray = ls at hl ⊢
  have hl : lv_has ls 8 [(0, .ref hm), (1, .int 0), (2, .int 0), (3, .int 0), (4, .int 0), (5, .int 0)] := hl
  have hk0 := hk
  obtain ⟨kym, ktm, kk0, kk1, kmp, ktu, kmt, kml, kmb, kbb, kab, kss0, kss, kks, kas, kxx, kkx, knx⟩ := hk
  refine lv_aload_n hx hb dX12_make_0 rfl (lv_at hl 0 rfl) ?_
  refine lv_iconst (v := 0) hx hb dX12_make_1 (by decide) ?_
  refine va_put (D := D) (ci := 12) (v := .int 0) (ty := .int) (C := RX12) (T := TX12) (N := 74) hx hb hT i_TX12 tyX12 tyX12_ok nmX12 hown hK hP hD hS 0 rfl rfl 0 (by decide) (hT _ t_1715) (fun _ h9 => h9) rfl (by decide +kernel) rfl rfl (Nat.le_of_ble_eq_true rfl) dX12_make_2 (fun H locs hP hD hS => ?_)
  have hP : va_P D vwCl [(hm, .inr (12, [.int 0, .ref (ma 1), (fv 2), (fv 3), .ref (ma 4), (fv 5), (fv 6), (fv 7), (fv 8), (fv 9), (fv 10), (fv 11), (fv 12), (fv 13), (fv 14), .int 1, (fv 16), .ref (ma 17), .ref (ma 18), .ref (ma 19), .ref (ma 20), .ref (ma 21), .ref (ma 22), .ref (ma 23), .ref (ma 24), .ref (ma 25), .ref (ma 26), .ref (ma 27), .ref (ma 28), .ref (ma 29), .ref (ma 30), .ref (ma 31), .ref (ma 32), .ref (ma 33), .ref (ma 34), .ref (ma 35), .ref (ma 36), .ref (ma 37), .ref (ma 38), .ref (ma 39), .ref (ma 40), .ref (ma 41), .ref (ma 42), .ref (ma 43), .ref (ma 44), .ref (ma 45), .ref (ma 46), .ref (ma 47), .ref (ma 48), (fv 49), (fv 50), (fv 51), (fv 52), (fv 53), (fv 54), (fv 55), (fv 56), (fv 57), (fv 58), .ref (ma 59), .ref (ma 60), (fv 61), (fv 62), .int (nI 0), .int (nI 0), .int 0, .int rv, .ref (ma 67), .ref (ma 68), .ref (ma 69), .int 0, (fv 71), .int (nI 0), .ref (ma 73)])), ((ma 39), .inl (cy 1, 3400, .inl kf)), ((ma 40), .inl (cy 1, 3400, .inl af)), ((ma 46), .inl (cy 2, 3400, .inr (.inl nf))), ((ma 23), .inl (cy 1, 16, .inl tm)), ((ma 24), .inl (cy 1, 128, .inl mkf)), ((ma 25), .inl (cy 2, 128, .inr (.inl mnf))), ((ma 29), .inl (cy 1, 128, .inl mbf)), ((ma 68), .inl (cy 1, 210, .inl ttf)), ((ma 17), .inl (cy 1, 2, .inl ym)), ((ma 30), .inl (cy 1, 128, .inl mpf)), ((ma 59), .inl (cy 1, 16, .inl tsf)), ((ma 22), .inl (cy 1, 16, .inl tuf)), ((ma 37), .inl (cy 1, 128, .inl mtf)), ((ma 33), .inl (cy 1, 128, .inl mlf)), ((ma 69), .inl (cy 1, 13440, .inl ccf)), ((ma 67), .inl (cy 1, 78, .inl prf))] H := hP
  have hD : va_D A [(hm, .inr (12, [.int 0, .ref (ma 1), (fv 2), (fv 3), .ref (ma 4), (fv 5), (fv 6), (fv 7), (fv 8), (fv 9), (fv 10), (fv 11), (fv 12), (fv 13), (fv 14), .int 1, (fv 16), .ref (ma 17), .ref (ma 18), .ref (ma 19), .ref (ma 20), .ref (ma 21), .ref (ma 22), .ref (ma 23), .ref (ma 24), .ref (ma 25), .ref (ma 26), .ref (ma 27), .ref (ma 28), .ref (ma 29), .ref (ma 30), .ref (ma 31), .ref (ma 32), .ref (ma 33), .ref (ma 34), .ref (ma 35), .ref (ma 36), .ref (ma 37), .ref (ma 38), .ref (ma 39), .ref (ma 40), .ref (ma 41), .ref (ma 42), .ref (ma 43), .ref (ma 44), .ref (ma 45), .ref (ma 46), .ref (ma 47), .ref (ma 48), (fv 49), (fv 50), (fv 51), (fv 52), (fv 53), (fv 54), (fv 55), (fv 56), (fv 57), (fv 58), .ref (ma 59), .ref (ma 60), (fv 61), (fv 62), .int (nI 0), .int (nI 0), .int 0, .int rv, .ref (ma 67), .ref (ma 68), .ref (ma 69), .int 0, (fv 71), .int (nI 0), .ref (ma 73)])), ((ma 39), .inl (cy 1, 3400, .inl kf)), ((ma 40), .inl (cy 1, 3400, .inl af)), ((ma 46), .inl (cy 2, 3400, .inr (.inl nf))), ((ma 23), .inl (cy 1, 16, .inl tm)), ((ma 24), .inl (cy 1, 128, .inl mkf)), ((ma 25), .inl (cy 2, 128, .inr (.inl mnf))), ((ma 29), .inl (cy 1, 128, .inl mbf)), ((ma 68), .inl (cy 1, 210, .inl ttf)), ((ma 17), .inl (cy 1, 2, .inl ym)), ((ma 30), .inl (cy 1, 128, .inl mpf)), ((ma 59), .inl (cy 1, 16, .inl tsf)), ((ma 22), .inl (cy 1, 16, .inl tuf)), ((ma 37), .inl (cy 1, 128, .inl mtf)), ((ma 33), .inl (cy 1, 128, .inl mlf)), ((ma 69), .inl (cy 1, 13440, .inl ccf)), ((ma 67), .inl (cy 1, 78, .inl prf))] := hD
  refine lv_iload_n hx hb dX12_make_5 rfl (lv_at hl 1 rfl) ?_
  refine lv_if_lt (tgt := 22) hx hb dX12_make_6 (by decide) (fun c9 => absurd c9 (by decide)) (fun _ => ?_)
  refine lv_iload_n hx hb dX12_make_9 rfl (lv_at hl 1 rfl) ?_
  refine lv_aload_n hx hb dX12_make_10 rfl (lv_at hl 0 rfl) ?_
  refine va_get (D := D) (ci := 12) (v := .ref (ma 17)) (C := RX12) (T := TX12) (N := 74) hx hb hT i_TX12 hown hK hP 0 rfl rfl 17 (by decide) (hT _ t_1732) (fun _ h9 => h9) rfl dX12_make_11 ?_
  refine lv_aload_n hx hb dX12_make_14 rfl (lv_at hl 0 rfl) ?_
  refine va_get (D := D) (ci := 12) (v := .int 1) (C := RX12) (T := TX12) (N := 74) hx hb hT i_TX12 hown hK hP 0 rfl rfl 15 (by decide) (hT _ t_1730) (fun _ h9 => h9) rfl dX12_make_15 ?_
  refine va_iald hx hb hK hP 9 1 rfl rfl (vp_in_iff.mpr (by decide)) dX12_make_18 ?_
  refine lv_topi (fun z1 e2 => ?_)
  obtain rfl : z1 = 1 := e2.trans kym
  refine lv_icmp_lt (tgt := 24) hx hb dX12_make_19 (by decide) (fun _ => ?_) (fun c9 => absurd (by decide) c9)
  refine lv_iload_n hx hb dX12_make_24 rfl (lv_at hl 2 rfl) ?_
  refine lv_if_lt (tgt := 33) hx hb dX12_make_25 (by decide) (fun c9 => absurd c9 (by decide)) (fun _ => ?_)
  refine lv_iload_n hx hb dX12_make_28 rfl (lv_at hl 2 rfl) ?_
  refine lv_iconst (v := 3) hx hb dX12_make_29 (by decide) ?_
  refine lv_icmp_le (tgt := 36) hx hb dX12_make_30 (by decide) (fun _ => ?_) (fun c9 => absurd (by decide) c9)
  refine lv_aload_n hx hb dX12_make_36 rfl (lv_at hl 0 rfl) ?_
  refine lv_bipush (v := 8) hx hb dX12_make_37 (by decide) ?_
  refine lv_aload_n hx hb dX12_make_39 rfl (lv_at hl 0 rfl) ?_
  refine va_get (D := D) (ci := 12) (v := .int 1) (C := RX12) (T := TX12) (N := 74) hx hb hT i_TX12 hown hK hP 0 rfl rfl 15 (by decide) (hT _ t_1730) (fun _ h9 => h9) rfl dX12_make_40 ?_
  refine lv_imul hx hb dX12_make_43 ?_
  refine lv_topi (fun z3 e4 => ?_)
  obtain rfl : z3 = 8 := e4.trans (by first | decide | rfl)
  refine lv_iload_n hx hb dX12_make_44 rfl (lv_at hl 1 rfl) ?_
  refine lv_iadd hx hb dX12_make_45 ?_
  refine lv_topi (fun z5 e6 => ?_)
  obtain rfl : z5 = 8 := e6.trans (by first | decide | rfl)
  refine lv_iload_n hx hb dX12_make_46 rfl (lv_at hl 2 rfl) ?_
  rcases Nat.eq_zero_or_pos d with rfl | hpos
  · exact va_dieV (Pc := fun _ _ => True) (ws := .code yX12_makerOf cX12_makerOf 4 (some .int) :: TB) (As := [.int 8, .int 0]) (rest := []) ⟨hx, hb, hml, hown, hT⟩ (fun k h9 => absurd h9 (by omega)) (cwV 2 hT (gTBV t_2098 t_2100 t_104 t_153 t_2101) rfl rfl rfl (by decide +kernel) ⟨by decide, by decide⟩) ⟨fun _ _ _ _ _ => trivial, va_recv hK hP (ci := 12) (q0 := 0) rfl rfl, fun _ _ _ => trivial⟩ hex hmc hlocks htg rfl rfl hl.1 rfl (lv_room (Nat.le_of_ble_eq_true rfl)) dX12_make_47 rfl rfl (Nat.le_of_ble_eq_true rfl) (Nat.le_of_ble_eq_true rfl)
  · obtain ⟨k, rfl⟩ : ∃ k, d = k + 1 := ⟨d - 1, by omega⟩
    have hPc := hP.sub (ws' := [(hm, .inr (12, [.int 0, .ref (ma 1), (fv 2), (fv 3), .ref (ma 4), (fv 5), (fv 6), (fv 7), (fv 8), (fv 9), (fv 10), (fv 11), (fv 12), (fv 13), (fv 14), .int 1, (fv 16), .ref (ma 17), .ref (ma 18), .ref (ma 19), .ref (ma 20), .ref (ma 21), .ref (ma 22), .ref (ma 23), .ref (ma 24), .ref (ma 25), .ref (ma 26), .ref (ma 27), .ref (ma 28), .ref (ma 29), .ref (ma 30), .ref (ma 31), .ref (ma 32), .ref (ma 33), .ref (ma 34), .ref (ma 35), .ref (ma 36), .ref (ma 37), .ref (ma 38), .ref (ma 39), .ref (ma 40), .ref (ma 41), .ref (ma 42), .ref (ma 43), .ref (ma 44), .ref (ma 45), .ref (ma 46), .ref (ma 47), .ref (ma 48), (fv 49), (fv 50), (fv 51), (fv 52), (fv 53), (fv 54), (fv 55), (fv 56), (fv 57), (fv 58), .ref (ma 59), .ref (ma 60), (fv 61), (fv 62), .int (nI 0), .int (nI 0), .int 0, .int rv, .ref (ma 67), .ref (ma 68), .ref (ma 69), .int 0, (fv 71), .int (nI 0), .ref (ma 73)])), ((ma 39), .inl (cy 1, 3400, .inl kf)), ((ma 40), .inl (cy 1, 3400, .inl af)), ((ma 46), .inl (cy 2, 3400, .inr (.inl nf))), ((ma 23), .inl (cy 1, 16, .inl tm)), ((ma 24), .inl (cy 1, 128, .inl mkf)), ((ma 25), .inl (cy 2, 128, .inr (.inl mnf))), ((ma 29), .inl (cy 1, 128, .inl mbf)), ((ma 68), .inl (cy 1, 210, .inl ttf)), ((ma 17), .inl (cy 1, 2, .inl ym)), ((ma 30), .inl (cy 1, 128, .inl mpf)), ((ma 59), .inl (cy 1, 16, .inl tsf)), ((ma 22), .inl (cy 1, 16, .inl tuf)), ((ma 37), .inl (cy 1, 128, .inl mtf)), ((ma 33), .inl (cy 1, 128, .inl mlf)), ((ma 69), .inl (cy 1, 13440, .inl ccf)), ((ma 67), .inl (cy 1, 78, .inl prf))]) [0, 1, 2, 3, 4, 5, 6, 7, 8, 9, 10, 11, 12, 13, 14, 15, 16] rfl
    have hDc := hD.sub (ws' := [(hm, .inr (12, [.int 0, .ref (ma 1), (fv 2), (fv 3), .ref (ma 4), (fv 5), (fv 6), (fv 7), (fv 8), (fv 9), (fv 10), (fv 11), (fv 12), (fv 13), (fv 14), .int 1, (fv 16), .ref (ma 17), .ref (ma 18), .ref (ma 19), .ref (ma 20), .ref (ma 21), .ref (ma 22), .ref (ma 23), .ref (ma 24), .ref (ma 25), .ref (ma 26), .ref (ma 27), .ref (ma 28), .ref (ma 29), .ref (ma 30), .ref (ma 31), .ref (ma 32), .ref (ma 33), .ref (ma 34), .ref (ma 35), .ref (ma 36), .ref (ma 37), .ref (ma 38), .ref (ma 39), .ref (ma 40), .ref (ma 41), .ref (ma 42), .ref (ma 43), .ref (ma 44), .ref (ma 45), .ref (ma 46), .ref (ma 47), .ref (ma 48), (fv 49), (fv 50), (fv 51), (fv 52), (fv 53), (fv 54), (fv 55), (fv 56), (fv 57), (fv 58), .ref (ma 59), .ref (ma 60), (fv 61), (fv 62), .int (nI 0), .int (nI 0), .int 0, .int rv, .ref (ma 67), .ref (ma 68), .ref (ma 69), .int 0, (fv 71), .int (nI 0), .ref (ma 73)])), ((ma 39), .inl (cy 1, 3400, .inl kf)), ((ma 40), .inl (cy 1, 3400, .inl af)), ((ma 46), .inl (cy 2, 3400, .inr (.inl nf))), ((ma 23), .inl (cy 1, 16, .inl tm)), ((ma 24), .inl (cy 1, 128, .inl mkf)), ((ma 25), .inl (cy 2, 128, .inr (.inl mnf))), ((ma 29), .inl (cy 1, 128, .inl mbf)), ((ma 68), .inl (cy 1, 210, .inl ttf)), ((ma 17), .inl (cy 1, 2, .inl ym)), ((ma 30), .inl (cy 1, 128, .inl mpf)), ((ma 59), .inl (cy 1, 16, .inl tsf)), ((ma 22), .inl (cy 1, 16, .inl tuf)), ((ma 37), .inl (cy 1, 128, .inl mtf)), ((ma 33), .inl (cy 1, 128, .inl mlf)), ((ma 69), .inl (cy 1, 13440, .inl ccf)), ((ma 67), .inl (cy 1, 78, .inl prf))]) [0, 1, 2, 3, 4, 5, 6, 7, 8, 9, 10, 11, 12, 13, 14, 15, 16] (by decide) rfl
    have hFc := va_free (wc := [(hm, .inr (12, [.int 0, .ref (ma 1), (fv 2), (fv 3), .ref (ma 4), (fv 5), (fv 6), (fv 7), (fv 8), (fv 9), (fv 10), (fv 11), (fv 12), (fv 13), (fv 14), .int 1, (fv 16), .ref (ma 17), .ref (ma 18), .ref (ma 19), .ref (ma 20), .ref (ma 21), .ref (ma 22), .ref (ma 23), .ref (ma 24), .ref (ma 25), .ref (ma 26), .ref (ma 27), .ref (ma 28), .ref (ma 29), .ref (ma 30), .ref (ma 31), .ref (ma 32), .ref (ma 33), .ref (ma 34), .ref (ma 35), .ref (ma 36), .ref (ma 37), .ref (ma 38), .ref (ma 39), .ref (ma 40), .ref (ma 41), .ref (ma 42), .ref (ma 43), .ref (ma 44), .ref (ma 45), .ref (ma 46), .ref (ma 47), .ref (ma 48), (fv 49), (fv 50), (fv 51), (fv 52), (fv 53), (fv 54), (fv 55), (fv 56), (fv 57), (fv 58), .ref (ma 59), .ref (ma 60), (fv 61), (fv 62), .int (nI 0), .int (nI 0), .int 0, .int rv, .ref (ma 67), .ref (ma 68), .ref (ma 69), .int 0, (fv 71), .int (nI 0), .ref (ma 73)])), ((ma 39), .inl (cy 1, 3400, .inl kf)), ((ma 40), .inl (cy 1, 3400, .inl af)), ((ma 46), .inl (cy 2, 3400, .inr (.inl nf))), ((ma 23), .inl (cy 1, 16, .inl tm)), ((ma 24), .inl (cy 1, 128, .inl mkf)), ((ma 25), .inl (cy 2, 128, .inr (.inl mnf))), ((ma 29), .inl (cy 1, 128, .inl mbf)), ((ma 68), .inl (cy 1, 210, .inl ttf)), ((ma 17), .inl (cy 1, 2, .inl ym)), ((ma 30), .inl (cy 1, 128, .inl mpf)), ((ma 59), .inl (cy 1, 16, .inl tsf)), ((ma 22), .inl (cy 1, 16, .inl tuf)), ((ma 37), .inl (cy 1, 128, .inl mtf)), ((ma 33), .inl (cy 1, 128, .inl mlf)), ((ma 69), .inl (cy 1, 13440, .inl ccf)), ((ma 67), .inl (cy 1, 78, .inl prf))]) hD hS hA [0, 1, 2, 3, 4, 5, 6, 7, 8, 9, 10, 11, 12, 13, 14, 15, 16] rfl
    refine va_calli (va_runV (As := [.int 8, .int 0]) (rest := []) ⟨hx, hb, hml, hown, hT⟩ (d_makerOf l D cy H.size hm ma fv kf af nf tm mkf mnf mbf ttf kn nn 0 tt bb ss nm 0 0 rv 0 0 1 mb ms mx ym mpf tsf tuf mtf mlf ccf prf hk0) (cwV 2 hT (gTBV t_2098 t_2100 t_104 t_153 t_2101) rfl rfl rfl (by decide +kernel) ⟨Nat.le_add_left 1 k, Nat.le_trans (m := 40) (Nat.le_of_ble_eq_true rfl) (by show 40 ≤ 40 * (k + 1); omega)⟩) ⟨fun a U g mk q => by obtain ⟨q0, q1, qP, qK, qD⟩ := q; exact ⟨q0, q1, qP, va_K.moved (u := U) (U := U.calling g mk a) (Vm.Alike.refl U.vm) qK, qD⟩, va_recv hK hPc (ci := 12) (q0 := 0) rfl rfl, fun U hU hW => ⟨rfl, by rw [hU], by rw [hU]; exact hPc, va_K.moved hW.alike hK, hDc.weaken (fun _ _ _ _ => trivial)⟩⟩ rfl rfl hl.1 rfl (lv_room (Nat.le_of_ble_eq_true rfl)) dX12_make_47 ⟨Nat.le_of_ble_eq_true rfl, Nat.le_of_ble_eq_true rfl⟩) hS (fun q _ h => hFc q h) hFc (fun r7 u t H1 locs ht hvm w8 hB hz1 hk1 hS => ?_)
    obtain ⟨hP1, hD1⟩ := hB
    rw [ht] at hP1
    obtain ⟨hP, hD⟩ := va_join (wr := []) (w1 := [(hm, .inr (12, [.int 0, .ref (ma 1), (fv 2), (fv 3), .ref (ma 4), (fv 5), (fv 6), (fv 7), (fv 8), (fv 9), (fv 10), (fv 11), (fv 12), (fv 13), (fv 14), .int 1, (fv 16), .ref (ma 17), .ref (ma 18), .ref (ma 19), .ref (ma 20), .ref (ma 21), .ref (ma 22), .ref (ma 23), .ref (ma 24), .ref (ma 25), .ref (ma 26), .ref (ma 27), .ref (ma 28), .ref (ma 29), .ref (ma 30), .ref (ma 31), .ref (ma 32), .ref (ma 33), .ref (ma 34), .ref (ma 35), .ref (ma 36), .ref (ma 37), .ref (ma 38), .ref (ma 39), .ref (ma 40), .ref (ma 41), .ref (ma 42), .ref (ma 43), .ref (ma 44), .ref (ma 45), .ref (ma 46), .ref (ma 47), .ref (ma 48), (fv 49), (fv 50), (fv 51), (fv 52), (fv 53), (fv 54), (fv 55), (fv 56), (fv 57), (fv 58), .ref (ma 59), .ref (ma 60), (fv 61), (fv 62), .int (nI 0), .int (nI 0), .int 0, .int rv, .ref (ma 67), .ref (ma 68), .ref (ma 69), .int 0, (fv 71), .int (nI 0), .ref (ma 73)])), ((ma 39), .inl (cy 1, 3400, .inl kf)), ((ma 40), .inl (cy 1, 3400, .inl af)), ((ma 46), .inl (cy 2, 3400, .inr (.inl nf))), ((ma 23), .inl (cy 1, 16, .inl tm)), ((ma 24), .inl (cy 1, 128, .inl mkf)), ((ma 25), .inl (cy 2, 128, .inr (.inl mnf))), ((ma 29), .inl (cy 1, 128, .inl mbf)), ((ma 68), .inl (cy 1, 210, .inl ttf)), ((ma 17), .inl (cy 1, 2, .inl ym)), ((ma 30), .inl (cy 1, 128, .inl mpf)), ((ma 59), .inl (cy 1, 16, .inl tsf)), ((ma 22), .inl (cy 1, 16, .inl tuf)), ((ma 37), .inl (cy 1, 128, .inl mtf)), ((ma 33), .inl (cy 1, 128, .inl mlf)), ((ma 69), .inl (cy 1, 13440, .inl ccf)), ((ma 67), .inl (cy 1, 78, .inl prf))]) hP hD [0, 1, 2, 3, 4, 5, 6, 7, 8, 9, 10, 11, 12, 13, 14, 15, 16] [] rfl rfl (by decide) (by decide) hk1 hFc hP1 hD1
    generalize H1 = H at hP hS ⊢
    have hP : va_P D vwCl [(hm, .inr (12, [.int 0, .ref (ma 1), (fv 2), (fv 3), .ref (ma 4), (fv 5), (fv 6), (fv 7), (fv 8), (fv 9), (fv 10), (fv 11), (fv 12), (fv 13), (fv 14), .int 1, (fv 16), .ref (ma 17), .ref (ma 18), .ref (ma 19), .ref (ma 20), .ref (ma 21), .ref (ma 22), .ref (ma 23), .ref (ma 24), .ref (ma 25), .ref (ma 26), .ref (ma 27), .ref (ma 28), .ref (ma 29), .ref (ma 30), .ref (ma 31), .ref (ma 32), .ref (ma 33), .ref (ma 34), .ref (ma 35), .ref (ma 36), .ref (ma 37), .ref (ma 38), .ref (ma 39), .ref (ma 40), .ref (ma 41), .ref (ma 42), .ref (ma 43), .ref (ma 44), .ref (ma 45), .ref (ma 46), .ref (ma 47), .ref (ma 48), (fv 49), (fv 50), (fv 51), (fv 52), (fv 53), (fv 54), (fv 55), (fv 56), (fv 57), (fv 58), .ref (ma 59), .ref (ma 60), (fv 61), (fv 62), .int (nI 0), .int (nI 0), .int 0, .int rv, .ref (ma 67), .ref (ma 68), .ref (ma 69), .int 0, (fv 71), .int (nI 0), .ref (ma 73)])), ((ma 39), .inl (cy 1, 3400, .inl kf)), ((ma 40), .inl (cy 1, 3400, .inl af)), ((ma 46), .inl (cy 2, 3400, .inr (.inl nf))), ((ma 23), .inl (cy 1, 16, .inl tm)), ((ma 24), .inl (cy 1, 128, .inl mkf)), ((ma 25), .inl (cy 2, 128, .inr (.inl mnf))), ((ma 29), .inl (cy 1, 128, .inl mbf)), ((ma 68), .inl (cy 1, 210, .inl ttf)), ((ma 17), .inl (cy 1, 2, .inl ym)), ((ma 30), .inl (cy 1, 128, .inl mpf)), ((ma 59), .inl (cy 1, 16, .inl tsf)), ((ma 22), .inl (cy 1, 16, .inl tuf)), ((ma 37), .inl (cy 1, 128, .inl mtf)), ((ma 33), .inl (cy 1, 128, .inl mlf)), ((ma 69), .inl (cy 1, 13440, .inl ccf)), ((ma 67), .inl (cy 1, 78, .inl prf))] H := hP
    have hD : va_D A [(hm, .inr (12, [.int 0, .ref (ma 1), (fv 2), (fv 3), .ref (ma 4), (fv 5), (fv 6), (fv 7), (fv 8), (fv 9), (fv 10), (fv 11), (fv 12), (fv 13), (fv 14), .int 1, (fv 16), .ref (ma 17), .ref (ma 18), .ref (ma 19), .ref (ma 20), .ref (ma 21), .ref (ma 22), .ref (ma 23), .ref (ma 24), .ref (ma 25), .ref (ma 26), .ref (ma 27), .ref (ma 28), .ref (ma 29), .ref (ma 30), .ref (ma 31), .ref (ma 32), .ref (ma 33), .ref (ma 34), .ref (ma 35), .ref (ma 36), .ref (ma 37), .ref (ma 38), .ref (ma 39), .ref (ma 40), .ref (ma 41), .ref (ma 42), .ref (ma 43), .ref (ma 44), .ref (ma 45), .ref (ma 46), .ref (ma 47), .ref (ma 48), (fv 49), (fv 50), (fv 51), (fv 52), (fv 53), (fv 54), (fv 55), (fv 56), (fv 57), (fv 58), .ref (ma 59), .ref (ma 60), (fv 61), (fv 62), .int (nI 0), .int (nI 0), .int 0, .int rv, .ref (ma 67), .ref (ma 68), .ref (ma 69), .int 0, (fv 71), .int (nI 0), .ref (ma 73)])), ((ma 39), .inl (cy 1, 3400, .inl kf)), ((ma 40), .inl (cy 1, 3400, .inl af)), ((ma 46), .inl (cy 2, 3400, .inr (.inl nf))), ((ma 23), .inl (cy 1, 16, .inl tm)), ((ma 24), .inl (cy 1, 128, .inl mkf)), ((ma 25), .inl (cy 2, 128, .inr (.inl mnf))), ((ma 29), .inl (cy 1, 128, .inl mbf)), ((ma 68), .inl (cy 1, 210, .inl ttf)), ((ma 17), .inl (cy 1, 2, .inl ym)), ((ma 30), .inl (cy 1, 128, .inl mpf)), ((ma 59), .inl (cy 1, 16, .inl tsf)), ((ma 22), .inl (cy 1, 16, .inl tuf)), ((ma 37), .inl (cy 1, 128, .inl mtf)), ((ma 33), .inl (cy 1, 128, .inl mlf)), ((ma 69), .inl (cy 1, 13440, .inl ccf)), ((ma 67), .inl (cy 1, 78, .inl prf))] := hD
    obtain rfl : r7 = 65 := w8
    refine lv_istore (lv' := [(6, .int 65), (0, .ref hm), (1, .int 0), (2, .int 0), (3, .int 0), (4, .int 0), (5, .int 0)]) hx hb dX12_make_50 hl (by decide) rfl (fun ls hl => ?_)
    refine lv_iload hx hb dX12_make_52 (lv_at hl 0 rfl) ?_
    refine lv_iconst (v := (-1)) hx hb dX12_make_54 (by decide) ?_
    refine lv_icmp_ne (tgt := 60) hx hb dX12_make_55 (by decide) (fun _ => ?_) (fun c9 => absurd c9 (by decide))
    refine lv_aload_n hx hb dX12_make_60 rfl (lv_at hl 1 rfl) ?_
    have hPc := hP.sub (ws' := [(hm, .inr (12, [.int 0, .ref (ma 1), (fv 2), (fv 3), .ref (ma 4), (fv 5), (fv 6), (fv 7), (fv 8), (fv 9), (fv 10), (fv 11), (fv 12), (fv 13), (fv 14), .int 1, (fv 16), .ref (ma 17), .ref (ma 18), .ref (ma 19), .ref (ma 20), .ref (ma 21), .ref (ma 22), .ref (ma 23), .ref (ma 24), .ref (ma 25), .ref (ma 26), .ref (ma 27), .ref (ma 28), .ref (ma 29), .ref (ma 30), .ref (ma 31), .ref (ma 32), .ref (ma 33), .ref (ma 34), .ref (ma 35), .ref (ma 36), .ref (ma 37), .ref (ma 38), .ref (ma 39), .ref (ma 40), .ref (ma 41), .ref (ma 42), .ref (ma 43), .ref (ma 44), .ref (ma 45), .ref (ma 46), .ref (ma 47), .ref (ma 48), (fv 49), (fv 50), (fv 51), (fv 52), (fv 53), (fv 54), (fv 55), (fv 56), (fv 57), (fv 58), .ref (ma 59), .ref (ma 60), (fv 61), (fv 62), .int (nI 0), .int (nI 0), .int 0, .int rv, .ref (ma 67), .ref (ma 68), .ref (ma 69), .int 0, (fv 71), .int (nI 0), .ref (ma 73)]))]) [0] rfl
    have hDc := hD.sub (ws' := [(hm, .inr (12, [.int 0, .ref (ma 1), (fv 2), (fv 3), .ref (ma 4), (fv 5), (fv 6), (fv 7), (fv 8), (fv 9), (fv 10), (fv 11), (fv 12), (fv 13), (fv 14), .int 1, (fv 16), .ref (ma 17), .ref (ma 18), .ref (ma 19), .ref (ma 20), .ref (ma 21), .ref (ma 22), .ref (ma 23), .ref (ma 24), .ref (ma 25), .ref (ma 26), .ref (ma 27), .ref (ma 28), .ref (ma 29), .ref (ma 30), .ref (ma 31), .ref (ma 32), .ref (ma 33), .ref (ma 34), .ref (ma 35), .ref (ma 36), .ref (ma 37), .ref (ma 38), .ref (ma 39), .ref (ma 40), .ref (ma 41), .ref (ma 42), .ref (ma 43), .ref (ma 44), .ref (ma 45), .ref (ma 46), .ref (ma 47), .ref (ma 48), (fv 49), (fv 50), (fv 51), (fv 52), (fv 53), (fv 54), (fv 55), (fv 56), (fv 57), (fv 58), .ref (ma 59), .ref (ma 60), (fv 61), (fv 62), .int (nI 0), .int (nI 0), .int 0, .int rv, .ref (ma 67), .ref (ma 68), .ref (ma 69), .int 0, (fv 71), .int (nI 0), .ref (ma 73)]))]) [0] (by decide) rfl
    have hFc := va_free (wc := [(hm, .inr (12, [.int 0, .ref (ma 1), (fv 2), (fv 3), .ref (ma 4), (fv 5), (fv 6), (fv 7), (fv 8), (fv 9), (fv 10), (fv 11), (fv 12), (fv 13), (fv 14), .int 1, (fv 16), .ref (ma 17), .ref (ma 18), .ref (ma 19), .ref (ma 20), .ref (ma 21), .ref (ma 22), .ref (ma 23), .ref (ma 24), .ref (ma 25), .ref (ma 26), .ref (ma 27), .ref (ma 28), .ref (ma 29), .ref (ma 30), .ref (ma 31), .ref (ma 32), .ref (ma 33), .ref (ma 34), .ref (ma 35), .ref (ma 36), .ref (ma 37), .ref (ma 38), .ref (ma 39), .ref (ma 40), .ref (ma 41), .ref (ma 42), .ref (ma 43), .ref (ma 44), .ref (ma 45), .ref (ma 46), .ref (ma 47), .ref (ma 48), (fv 49), (fv 50), (fv 51), (fv 52), (fv 53), (fv 54), (fv 55), (fv 56), (fv 57), (fv 58), .ref (ma 59), .ref (ma 60), (fv 61), (fv 62), .int (nI 0), .int (nI 0), .int 0, .int rv, .ref (ma 67), .ref (ma 68), .ref (ma 69), .int 0, (fv 71), .int (nI 0), .ref (ma 73)]))]) hD hS hA [0] rfl
    refine va_callv (va_runV (As := []) (rest := []) ⟨hx, hb, hml, hown, hT⟩ (d_fresh l D cy H.size hm ma fv kf af nf tm mkf mnf mbf ttf kn nn 0 tt bb ss nm 0 0 rv 0 0 hf 0 (nI 0) (nI 0) (nI 0)) (cwV 0 hT (gTBV t_2173 t_2175 t_121 t_153 t_2176) rfl rfl rfl (by decide +kernel) ⟨Nat.le_add_left 1 k, Nat.le_trans (m := 40) (Nat.le_of_ble_eq_true rfl) (by show 40 ≤ 40 * (k + 1); omega)⟩) ⟨fun a U g mk q => by obtain ⟨q0, q1, qP, qK, qD⟩ := q; exact ⟨q0, q1, qP, va_K.moved (u := U) (U := U.calling g mk a) (Vm.Alike.refl U.vm) qK, qD⟩, va_recv hK hPc (ci := 12) (q0 := 0) rfl rfl, fun U hU hW => ⟨rfl, by rw [hU], by rw [hU]; exact hPc, va_K.moved hW.alike hK, hDc.weaken (fun _ _ _ _ => trivial)⟩⟩ rfl rfl hl.1 rfl (lv_room (Nat.le_of_ble_eq_true rfl)) dX12_make_61 ⟨Nat.le_of_ble_eq_true rfl, Nat.le_of_ble_eq_true rfl⟩) hS (fun q _ h => hFc q h) hFc (fun  u t H1 locs ht hvm w9 hB hz1 hk1 hS => ?_)
    obtain ⟨hP1, hD1⟩ := hB
    rw [ht] at hP1
    obtain ⟨hP, hD⟩ := va_join (wr := [((ma 39), .inl (cy 1, 3400, .inl kf)), ((ma 40), .inl (cy 1, 3400, .inl af)), ((ma 46), .inl (cy 2, 3400, .inr (.inl nf))), ((ma 23), .inl (cy 1, 16, .inl tm)), ((ma 24), .inl (cy 1, 128, .inl mkf)), ((ma 25), .inl (cy 2, 128, .inr (.inl mnf))), ((ma 29), .inl (cy 1, 128, .inl mbf)), ((ma 68), .inl (cy 1, 210, .inl ttf)), ((ma 17), .inl (cy 1, 2, .inl ym)), ((ma 30), .inl (cy 1, 128, .inl mpf)), ((ma 59), .inl (cy 1, 16, .inl tsf)), ((ma 22), .inl (cy 1, 16, .inl tuf)), ((ma 37), .inl (cy 1, 128, .inl mtf)), ((ma 33), .inl (cy 1, 128, .inl mlf)), ((ma 69), .inl (cy 1, 13440, .inl ccf)), ((ma 67), .inl (cy 1, 78, .inl prf))]) (w1 := [(hm, .inr (12, [.int 0, .ref (ma 1), (fv 2), (fv 3), .ref (ma 4), (fv 5), (fv 6), (fv 7), (fv 8), (fv 9), (fv 10), (fv 11), (fv 12), (fv 13), (fv 14), .int 1, (fv 16), .ref (ma 17), .ref (ma 18), .ref (ma 19), .ref (ma 20), .ref (ma 21), .ref (ma 22), .ref (ma 23), .ref (ma 24), .ref (ma 25), .ref (ma 26), .ref (ma 27), .ref (ma 28), .ref (ma 29), .ref (ma 30), .ref (ma 31), .ref (ma 32), .ref (ma 33), .ref (ma 34), .ref (ma 35), .ref (ma 36), .ref (ma 37), .ref (ma 38), .ref (ma 39), .ref (ma 40), .ref (ma 41), .ref (ma 42), .ref (ma 43), .ref (ma 44), .ref (ma 45), .ref (ma 46), .ref (ma 47), .ref (ma 48), (fv 49), (fv 50), (fv 51), (fv 52), (fv 53), (fv 54), (fv 55), (fv 56), (fv 57), (fv 58), .ref (ma 59), .ref (ma 60), (fv 61), (fv 62), .int 0, .int 0, .int 0, .int rv, .ref (ma 67), .ref (ma 68), .ref (ma 69), .int 0, (fv 71), .int 0, .ref (ma 73)]))]) hP hD [0] [1, 2, 3, 4, 5, 6, 7, 8, 9, 10, 11, 12, 13, 14, 15, 16] rfl rfl (by decide) (by decide) hk1 hFc hP1 hD1
    generalize H1 = H at hP hS ⊢
    have hP : va_P D vwCl [((ma 39), .inl (cy 1, 3400, .inl kf)), ((ma 40), .inl (cy 1, 3400, .inl af)), ((ma 46), .inl (cy 2, 3400, .inr (.inl nf))), ((ma 23), .inl (cy 1, 16, .inl tm)), ((ma 24), .inl (cy 1, 128, .inl mkf)), ((ma 25), .inl (cy 2, 128, .inr (.inl mnf))), ((ma 29), .inl (cy 1, 128, .inl mbf)), ((ma 68), .inl (cy 1, 210, .inl ttf)), ((ma 17), .inl (cy 1, 2, .inl ym)), ((ma 30), .inl (cy 1, 128, .inl mpf)), ((ma 59), .inl (cy 1, 16, .inl tsf)), ((ma 22), .inl (cy 1, 16, .inl tuf)), ((ma 37), .inl (cy 1, 128, .inl mtf)), ((ma 33), .inl (cy 1, 128, .inl mlf)), ((ma 69), .inl (cy 1, 13440, .inl ccf)), ((ma 67), .inl (cy 1, 78, .inl prf)), (hm, .inr (12, [.int 0, .ref (ma 1), (fv 2), (fv 3), .ref (ma 4), (fv 5), (fv 6), (fv 7), (fv 8), (fv 9), (fv 10), (fv 11), (fv 12), (fv 13), (fv 14), .int 1, (fv 16), .ref (ma 17), .ref (ma 18), .ref (ma 19), .ref (ma 20), .ref (ma 21), .ref (ma 22), .ref (ma 23), .ref (ma 24), .ref (ma 25), .ref (ma 26), .ref (ma 27), .ref (ma 28), .ref (ma 29), .ref (ma 30), .ref (ma 31), .ref (ma 32), .ref (ma 33), .ref (ma 34), .ref (ma 35), .ref (ma 36), .ref (ma 37), .ref (ma 38), .ref (ma 39), .ref (ma 40), .ref (ma 41), .ref (ma 42), .ref (ma 43), .ref (ma 44), .ref (ma 45), .ref (ma 46), .ref (ma 47), .ref (ma 48), (fv 49), (fv 50), (fv 51), (fv 52), (fv 53), (fv 54), (fv 55), (fv 56), (fv 57), (fv 58), .ref (ma 59), .ref (ma 60), (fv 61), (fv 62), .int 0, .int 0, .int 0, .int rv, .ref (ma 67), .ref (ma 68), .ref (ma 69), .int 0, (fv 71), .int 0, .ref (ma 73)]))] H := hP
    have hD : va_D A [((ma 39), .inl (cy 1, 3400, .inl kf)), ((ma 40), .inl (cy 1, 3400, .inl af)), ((ma 46), .inl (cy 2, 3400, .inr (.inl nf))), ((ma 23), .inl (cy 1, 16, .inl tm)), ((ma 24), .inl (cy 1, 128, .inl mkf)), ((ma 25), .inl (cy 2, 128, .inr (.inl mnf))), ((ma 29), .inl (cy 1, 128, .inl mbf)), ((ma 68), .inl (cy 1, 210, .inl ttf)), ((ma 17), .inl (cy 1, 2, .inl ym)), ((ma 30), .inl (cy 1, 128, .inl mpf)), ((ma 59), .inl (cy 1, 16, .inl tsf)), ((ma 22), .inl (cy 1, 16, .inl tuf)), ((ma 37), .inl (cy 1, 128, .inl mtf)), ((ma 33), .inl (cy 1, 128, .inl mlf)), ((ma 69), .inl (cy 1, 13440, .inl ccf)), ((ma 67), .inl (cy 1, 78, .inl prf)), (hm, .inr (12, [.int 0, .ref (ma 1), (fv 2), (fv 3), .ref (ma 4), (fv 5), (fv 6), (fv 7), (fv 8), (fv 9), (fv 10), (fv 11), (fv 12), (fv 13), (fv 14), .int 1, (fv 16), .ref (ma 17), .ref (ma 18), .ref (ma 19), .ref (ma 20), .ref (ma 21), .ref (ma 22), .ref (ma 23), .ref (ma 24), .ref (ma 25), .ref (ma 26), .ref (ma 27), .ref (ma 28), .ref (ma 29), .ref (ma 30), .ref (ma 31), .ref (ma 32), .ref (ma 33), .ref (ma 34), .ref (ma 35), .ref (ma 36), .ref (ma 37), .ref (ma 38), .ref (ma 39), .ref (ma 40), .ref (ma 41), .ref (ma 42), .ref (ma 43), .ref (ma 44), .ref (ma 45), .ref (ma 46), .ref (ma 47), .ref (ma 48), (fv 49), (fv 50), (fv 51), (fv 52), (fv 53), (fv 54), (fv 55), (fv 56), (fv 57), (fv 58), .ref (ma 59), .ref (ma 60), (fv 61), (fv 62), .int 0, .int 0, .int 0, .int rv, .ref (ma 67), .ref (ma 68), .ref (ma 69), .int 0, (fv 71), .int 0, .ref (ma 73)]))] := hD
    have hP : va_P D vwCl [((ma 39), .inl (cy 1, 3400, .inl kf)), ((ma 40), .inl (cy 1, 3400, .inl af)), ((ma 46), .inl (cy 2, 3400, .inr (.inl nf))), ((ma 23), .inl (cy 1, 16, .inl tm)), ((ma 24), .inl (cy 1, 128, .inl mkf)), ((ma 25), .inl (cy 2, 128, .inr (.inl mnf))), ((ma 29), .inl (cy 1, 128, .inl mbf)), ((ma 68), .inl (cy 1, 210, .inl ttf)), ((ma 17), .inl (cy 1, 2, .inl ym)), ((ma 30), .inl (cy 1, 128, .inl mpf)), ((ma 59), .inl (cy 1, 16, .inl tsf)), ((ma 22), .inl (cy 1, 16, .inl tuf)), ((ma 37), .inl (cy 1, 128, .inl mtf)), ((ma 33), .inl (cy 1, 128, .inl mlf)), ((ma 69), .inl (cy 1, 13440, .inl ccf)), ((ma 67), .inl (cy 1, 78, .inl prf)), (hm, .inr (12, [.int 0, .ref (ma 1), (fv 2), (fv 3), .ref (ma 4), (fv 5), (fv 6), (fv 7), (fv 8), (fv 9), (fv 10), (fv 11), (fv 12), (fv 13), (fv 14), .int 1, (fv 16), .ref (ma 17), .ref (ma 18), .ref (ma 19), .ref (ma 20), .ref (ma 21), .ref (ma 22), .ref (ma 23), .ref (ma 24), .ref (ma 25), .ref (ma 26), .ref (ma 27), .ref (ma 28), .ref (ma 29), .ref (ma 30), .ref (ma 31), .ref (ma 32), .ref (ma 33), .ref (ma 34), .ref (ma 35), .ref (ma 36), .ref (ma 37), .ref (ma 38), .ref (ma 39), .ref (ma 40), .ref (ma 41), .ref (ma 42), .ref (ma 43), .ref (ma 44), .ref (ma 45), .ref (ma 46), .ref (ma 47), .ref (ma 48), (fv 49), (fv 50), (fv 51), (fv 52), (fv 53), (fv 54), (fv 55), (fv 56), (fv 57), (fv 58), .ref (ma 59), .ref (ma 60), (fv 61), (fv 62), .int (nI 0), .int (nI 0), .int 0, .int rv, .ref (ma 67), .ref (ma 68), .ref (ma 69), .int 0, (fv 71), .int (nI 0), .ref (ma 73)]))] H := hP
    have hD : va_D A [((ma 39), .inl (cy 1, 3400, .inl kf)), ((ma 40), .inl (cy 1, 3400, .inl af)), ((ma 46), .inl (cy 2, 3400, .inr (.inl nf))), ((ma 23), .inl (cy 1, 16, .inl tm)), ((ma 24), .inl (cy 1, 128, .inl mkf)), ((ma 25), .inl (cy 2, 128, .inr (.inl mnf))), ((ma 29), .inl (cy 1, 128, .inl mbf)), ((ma 68), .inl (cy 1, 210, .inl ttf)), ((ma 17), .inl (cy 1, 2, .inl ym)), ((ma 30), .inl (cy 1, 128, .inl mpf)), ((ma 59), .inl (cy 1, 16, .inl tsf)), ((ma 22), .inl (cy 1, 16, .inl tuf)), ((ma 37), .inl (cy 1, 128, .inl mtf)), ((ma 33), .inl (cy 1, 128, .inl mlf)), ((ma 69), .inl (cy 1, 13440, .inl ccf)), ((ma 67), .inl (cy 1, 78, .inl prf)), (hm, .inr (12, [.int 0, .ref (ma 1), (fv 2), (fv 3), .ref (ma 4), (fv 5), (fv 6), (fv 7), (fv 8), (fv 9), (fv 10), (fv 11), (fv 12), (fv 13), (fv 14), .int 1, (fv 16), .ref (ma 17), .ref (ma 18), .ref (ma 19), .ref (ma 20), .ref (ma 21), .ref (ma 22), .ref (ma 23), .ref (ma 24), .ref (ma 25), .ref (ma 26), .ref (ma 27), .ref (ma 28), .ref (ma 29), .ref (ma 30), .ref (ma 31), .ref (ma 32), .ref (ma 33), .ref (ma 34), .ref (ma 35), .ref (ma 36), .ref (ma 37), .ref (ma 38), .ref (ma 39), .ref (ma 40), .ref (ma 41), .ref (ma 42), .ref (ma 43), .ref (ma 44), .ref (ma 45), .ref (ma 46), .ref (ma 47), .ref (ma 48), (fv 49), (fv 50), (fv 51), (fv 52), (fv 53), (fv 54), (fv 55), (fv 56), (fv 57), (fv 58), .ref (ma 59), .ref (ma 60), (fv 61), (fv 62), .int (nI 0), .int (nI 0), .int 0, .int rv, .ref (ma 67), .ref (ma 68), .ref (ma 69), .int 0, (fv 71), .int (nI 0), .ref (ma 73)]))] := hD
    refine lv_aload_n hx hb dX12_make_64 rfl (lv_at hl 1 rfl) ?_
    refine lv_aload_n hx hb dX12_make_65 rfl (lv_at hl 1 rfl) ?_
    refine lv_bipush (v := 8) hx hb dX12_make_66 (by decide) ?_
    refine lv_aload_n hx hb dX12_make_68 rfl (lv_at hl 1 rfl) ?_
    refine va_get (D := D) (ci := 12) (v := .int 1) (C := RX12) (T := TX12) (N := 74) hx hb hT i_TX12 hown hK hP 16 rfl rfl 15 (by decide) (hT _ t_1730) (fun _ h9 => h9) rfl dX12_make_69 ?_
    refine lv_imul hx hb dX12_make_72 ?_
    refine lv_topi (fun z10 e11 => ?_)
    obtain rfl : z10 = 8 := e11.trans (by first | decide | rfl)
    refine lv_iload_n hx hb dX12_make_73 rfl (lv_at hl 2 rfl) ?_
    refine lv_iadd hx hb dX12_make_74 ?_
    refine lv_topi (fun z12 e13 => ?_)
    obtain rfl : z12 = 8 := e13.trans (by first | decide | rfl)
    refine lv_iload hx hb dX12_make_75 (lv_at hl 0 rfl) ?_
    refine lv_iload_n hx hb dX12_make_77 rfl (lv_at hl 4 rfl) ?_
    refine lv_iload hx hb dX12_make_78 (lv_at hl 5 rfl) ?_
    refine lv_iload hx hb dX12_make_80 (lv_at hl 6 rfl) ?_
    have hPc := hP.sub (ws' := [(hm, .inr (12, [.int 0, .ref (ma 1), (fv 2), (fv 3), .ref (ma 4), (fv 5), (fv 6), (fv 7), (fv 8), (fv 9), (fv 10), (fv 11), (fv 12), (fv 13), (fv 14), .int 1, (fv 16), .ref (ma 17), .ref (ma 18), .ref (ma 19), .ref (ma 20), .ref (ma 21), .ref (ma 22), .ref (ma 23), .ref (ma 24), .ref (ma 25), .ref (ma 26), .ref (ma 27), .ref (ma 28), .ref (ma 29), .ref (ma 30), .ref (ma 31), .ref (ma 32), .ref (ma 33), .ref (ma 34), .ref (ma 35), .ref (ma 36), .ref (ma 37), .ref (ma 38), .ref (ma 39), .ref (ma 40), .ref (ma 41), .ref (ma 42), .ref (ma 43), .ref (ma 44), .ref (ma 45), .ref (ma 46), .ref (ma 47), .ref (ma 48), (fv 49), (fv 50), (fv 51), (fv 52), (fv 53), (fv 54), (fv 55), (fv 56), (fv 57), (fv 58), .ref (ma 59), .ref (ma 60), (fv 61), (fv 62), .int (nI 0), .int (nI 0), .int 0, .int rv, .ref (ma 67), .ref (ma 68), .ref (ma 69), .int 0, (fv 71), .int (nI 0), .ref (ma 73)])), ((ma 39), .inl (cy 1, 3400, .inl kf)), ((ma 40), .inl (cy 1, 3400, .inl af)), ((ma 46), .inl (cy 2, 3400, .inr (.inl nf))), ((ma 23), .inl (cy 1, 16, .inl tm)), ((ma 24), .inl (cy 1, 128, .inl mkf)), ((ma 25), .inl (cy 2, 128, .inr (.inl mnf))), ((ma 29), .inl (cy 1, 128, .inl mbf)), ((ma 68), .inl (cy 1, 210, .inl ttf)), ((ma 17), .inl (cy 1, 2, .inl ym)), ((ma 30), .inl (cy 1, 128, .inl mpf)), ((ma 59), .inl (cy 1, 16, .inl tsf)), ((ma 22), .inl (cy 1, 16, .inl tuf)), ((ma 37), .inl (cy 1, 128, .inl mtf)), ((ma 33), .inl (cy 1, 128, .inl mlf)), ((ma 69), .inl (cy 1, 13440, .inl ccf)), ((ma 67), .inl (cy 1, 78, .inl prf))]) [16, 0, 1, 2, 3, 4, 5, 6, 7, 8, 9, 10, 11, 12, 13, 14, 15] rfl
    have hDc := hD.sub (ws' := [(hm, .inr (12, [.int 0, .ref (ma 1), (fv 2), (fv 3), .ref (ma 4), (fv 5), (fv 6), (fv 7), (fv 8), (fv 9), (fv 10), (fv 11), (fv 12), (fv 13), (fv 14), .int 1, (fv 16), .ref (ma 17), .ref (ma 18), .ref (ma 19), .ref (ma 20), .ref (ma 21), .ref (ma 22), .ref (ma 23), .ref (ma 24), .ref (ma 25), .ref (ma 26), .ref (ma 27), .ref (ma 28), .ref (ma 29), .ref (ma 30), .ref (ma 31), .ref (ma 32), .ref (ma 33), .ref (ma 34), .ref (ma 35), .ref (ma 36), .ref (ma 37), .ref (ma 38), .ref (ma 39), .ref (ma 40), .ref (ma 41), .ref (ma 42), .ref (ma 43), .ref (ma 44), .ref (ma 45), .ref (ma 46), .ref (ma 47), .ref (ma 48), (fv 49), (fv 50), (fv 51), (fv 52), (fv 53), (fv 54), (fv 55), (fv 56), (fv 57), (fv 58), .ref (ma 59), .ref (ma 60), (fv 61), (fv 62), .int (nI 0), .int (nI 0), .int 0, .int rv, .ref (ma 67), .ref (ma 68), .ref (ma 69), .int 0, (fv 71), .int (nI 0), .ref (ma 73)])), ((ma 39), .inl (cy 1, 3400, .inl kf)), ((ma 40), .inl (cy 1, 3400, .inl af)), ((ma 46), .inl (cy 2, 3400, .inr (.inl nf))), ((ma 23), .inl (cy 1, 16, .inl tm)), ((ma 24), .inl (cy 1, 128, .inl mkf)), ((ma 25), .inl (cy 2, 128, .inr (.inl mnf))), ((ma 29), .inl (cy 1, 128, .inl mbf)), ((ma 68), .inl (cy 1, 210, .inl ttf)), ((ma 17), .inl (cy 1, 2, .inl ym)), ((ma 30), .inl (cy 1, 128, .inl mpf)), ((ma 59), .inl (cy 1, 16, .inl tsf)), ((ma 22), .inl (cy 1, 16, .inl tuf)), ((ma 37), .inl (cy 1, 128, .inl mtf)), ((ma 33), .inl (cy 1, 128, .inl mlf)), ((ma 69), .inl (cy 1, 13440, .inl ccf)), ((ma 67), .inl (cy 1, 78, .inl prf))]) [16, 0, 1, 2, 3, 4, 5, 6, 7, 8, 9, 10, 11, 12, 13, 14, 15] (by decide) rfl
    exact va_dieV  (As := [.int 8, .int 65, .int 0, .int 0, .int 0]) (rest := [.ref hm]) ⟨hx, hb, hml, hown, hT⟩ (fun k h9 => hN k h9 H.size) (cwV 5 hT (gTBV t_2177 t_2179 t_122 t_153 t_2180) rfl rfl rfl (by decide +kernel) ⟨by decide, by decide⟩) ⟨fun a U g mk q => by obtain ⟨q0, q1, qP, qK, qD⟩ := q; exact ⟨q0, q1, qP, va_K.moved (u := U) (U := U.calling g mk a) (Vm.Alike.refl U.vm) qK, qD⟩, va_recv hK hP (ci := 12) (q0 := 16) rfl rfl, fun U hU hW => ⟨rfl, by rw [hU], by rw [hU]; exact hPc, va_K.moved hW.alike hK, hDc.weaken (fun _ _ _ _ => trivial)⟩⟩ hex hmc hlocks htg rfl rfl hl.1 rfl (lv_room (Nat.le_of_ble_eq_true rfl)) dX12_make_82 rfl rfl (Nat.le_of_ble_eq_true rfl) (Nat.le_of_ble_eq_true rfl)
end
section
set_option maxHeartbeats 4000000 in
set_option maxRecDepth 100000 in
/-- make(0, 0, 0, 0, 0) never comes back with a value where fewer than 23 (nn + 4) frames are left: nn signs + in the act -/
theorem deep_make (l : Launch) (D : va_G) (cy : Nat → ClassId) (sz : Nat) (hm : Nat) (ma : Nat → Nat) (fv : Nat → Value) (kf : Nat → Int32) (af : Nat → Int32) (nf : Nat → Int64) (tm : Nat → Int32) (mkf : Nat → Int32) (mnf : Nat → Int64) (mbf : Nat → Int32) (ttf : Nat → Int32) (kn : Nat → Nat) (nn : Nat) (bb : Nat) (ss : Nat) (nm : Int64) (rv : Int32) (cd : Int32) (mb : Nat) (ms : Nat) (mx : Nat) (ym : Nat → Int32) (mpf : Nat → Int32) (tsf : Nat → Int32) (tuf : Nat → Int32) (mtf : Nat → Int32) (mlf : Nat → Int32) (ccf : Nat → Int32) (prf : Nat → Int32) (d : Nat) (hd : ∀ tt2 : Nat → Int32, tt2 0 = 8 → Dp kf af nf tm mkf mnf mbf tt2 kn nn 0 8 bb ss nm) (hk : Mk kf af nf tm mkf mbf ym mpf tuf mtf mlf nm mb ms mx) (hts0 : tsf 8 = 0) (hlt : d < 23 * (nn + 4)) : Dies l yX12_make (.code yX12_make cX12_make 8 (some .int) :: TB) d (va_Pc [.ref hm, .int 0, .int 0, .int 0, .int 0, .int 0] (fun U => U.heap.size = sz ∧ va_P D vwCl [(hm, .inr (12, [.int cd, .ref (ma 1), (fv 2), (fv 3), .ref (ma 4), (fv 5), (fv 6), (fv 7), (fv 8), (fv 9), (fv 10), (fv 11), (fv 12), (fv 13), (fv 14), .int 1, (fv 16), .ref (ma 17), .ref (ma 18), .ref (ma 19), .ref (ma 20), .ref (ma 21), .ref (ma 22), .ref (ma 23), .ref (ma 24), .ref (ma 25), .ref (ma 26), .ref (ma 27), .ref (ma 28), .ref (ma 29), .ref (ma 30), .ref (ma 31), .ref (ma 32), .ref (ma 33), .ref (ma 34), .ref (ma 35), .ref (ma 36), .ref (ma 37), .ref (ma 38), .ref (ma 39), .ref (ma 40), .ref (ma 41), .ref (ma 42), .ref (ma 43), .ref (ma 44), .ref (ma 45), .ref (ma 46), .ref (ma 47), .ref (ma 48), (fv 49), (fv 50), (fv 51), (fv 52), (fv 53), (fv 54), (fv 55), (fv 56), (fv 57), (fv 58), .ref (ma 59), .ref (ma 60), (fv 61), (fv 62), .int (nI 0), .int (nI 0), .int 0, .int rv, .ref (ma 67), .ref (ma 68), .ref (ma 69), .int 0, (fv 71), .int (nI 0), .ref (ma 73)])), ((ma 39), .inl (cy 1, 3400, .inl kf)), ((ma 40), .inl (cy 1, 3400, .inl af)), ((ma 46), .inl (cy 2, 3400, .inr (.inl nf))), ((ma 23), .inl (cy 1, 16, .inl tm)), ((ma 24), .inl (cy 1, 128, .inl mkf)), ((ma 25), .inl (cy 2, 128, .inr (.inl mnf))), ((ma 29), .inl (cy 1, 128, .inl mbf)), ((ma 68), .inl (cy 1, 210, .inl ttf)), ((ma 17), .inl (cy 1, 2, .inl ym)), ((ma 30), .inl (cy 1, 128, .inl mpf)), ((ma 59), .inl (cy 1, 16, .inl tsf)), ((ma 22), .inl (cy 1, 16, .inl tuf)), ((ma 37), .inl (cy 1, 128, .inl mtf)), ((ma 33), .inl (cy 1, 128, .inl mlf)), ((ma 69), .inl (cy 1, 13440, .inl ccf)), ((ma 67), .inl (cy 1, 78, .inl prf))] U.heap ∧ va_K D vwCl (TY cy) U ∧ va_D (fun _ => True) [(hm, .inr (12, [.int cd, .ref (ma 1), (fv 2), (fv 3), .ref (ma 4), (fv 5), (fv 6), (fv 7), (fv 8), (fv 9), (fv 10), (fv 11), (fv 12), (fv 13), (fv 14), .int 1, (fv 16), .ref (ma 17), .ref (ma 18), .ref (ma 19), .ref (ma 20), .ref (ma 21), .ref (ma 22), .ref (ma 23), .ref (ma 24), .ref (ma 25), .ref (ma 26), .ref (ma 27), .ref (ma 28), .ref (ma 29), .ref (ma 30), .ref (ma 31), .ref (ma 32), .ref (ma 33), .ref (ma 34), .ref (ma 35), .ref (ma 36), .ref (ma 37), .ref (ma 38), .ref (ma 39), .ref (ma 40), .ref (ma 41), .ref (ma 42), .ref (ma 43), .ref (ma 44), .ref (ma 45), .ref (ma 46), .ref (ma 47), .ref (ma 48), (fv 49), (fv 50), (fv 51), (fv 52), (fv 53), (fv 54), (fv 55), (fv 56), (fv 57), (fv 58), .ref (ma 59), .ref (ma 60), (fv 61), (fv 62), .int (nI 0), .int (nI 0), .int 0, .int rv, .ref (ma 67), .ref (ma 68), .ref (ma 69), .int 0, (fv 71), .int (nI 0), .ref (ma 73)])), ((ma 39), .inl (cy 1, 3400, .inl kf)), ((ma 40), .inl (cy 1, 3400, .inl af)), ((ma 46), .inl (cy 2, 3400, .inr (.inl nf))), ((ma 23), .inl (cy 1, 16, .inl tm)), ((ma 24), .inl (cy 1, 128, .inl mkf)), ((ma 25), .inl (cy 2, 128, .inr (.inl mnf))), ((ma 29), .inl (cy 1, 128, .inl mbf)), ((ma 68), .inl (cy 1, 210, .inl ttf)), ((ma 17), .inl (cy 1, 2, .inl ym)), ((ma 30), .inl (cy 1, 128, .inl mpf)), ((ma 59), .inl (cy 1, 16, .inl tsf)), ((ma 22), .inl (cy 1, 16, .inl tuf)), ((ma 37), .inl (cy 1, 128, .inl mtf)), ((ma 33), .inl (cy 1, 128, .inl mlf)), ((ma 69), .inl (cy 1, 13440, .inl ccf)), ((ma 67), .inl (cy 1, 78, .inl prf))])) := by
  have hk0 := hk
  obtain ⟨kym, ktm, kk0, kk1, kmp, ktu, kmt, kml, kmb, kbb, kab, kss0, kss, kks, kas, kxx, kkx, knx⟩ := hk
  refine e_make l D cy sz hm ma fv kf af nf tm mkf mnf mbf ttf kn nn 0 8 bb ss nm 0 0 rv cd 0 1 mb ms mx ym mpf tsf tuf mtf mlf ccf prf d hk0 ?_
  rintro k1 rfl sz1
  refine e_makes l D cy sz1 hm ma fv kf af nf tm mkf mnf mbf ttf kn nn 0 8 bb ss nm 0 0 rv 0 0 1 mb ms mx ym mpf tsf tuf mtf mlf ccf prf k1 hk0 hts0 ?_
  rintro k2 rfl sz2 ts2 cc2 tt2 htt
  have hd2 := hd tt2 htt
  refine e_lead l D cy sz2 hm ma fv kf af nf tm mkf mnf mbf tt2 kn nn 0 8 bb ss nm 1 0 rv 0 1 1 mb ms mx ym mpf ts2 tuf mtf mlf cc2 prf k2 hk0 ?_
  rintro k3 rfl sz3
  refine e_body2 l D cy sz3 hm ma fv kf af nf tm mkf mnf mbf tt2 kn nn 0 8 bb ss nm 1 1 rv 0 1 1 mb ms mx (nI 1) k3 kbb kab kss0 kss (by decide) ?_
  rintro k4 rfl sz4
  refine e_run2 l D cy sz4 hm ma fv kf af nf tm mkf mnf mbf tt2 kn nn 0 8 bb ss nm (1 + 1) 1 rv 0 1 1 mb ms mx (nI 1) k4 kss kks kas ?_
  rintro k5 rfl sz5
  refine e_work2 l D cy sz5 hm ma fv kf af nf tm mkf mnf mbf tt2 kn nn 0 8 bb ss nm (1 + 1) 1 rv 0 1 1 mb ms mx (nI 1) k5 kxx kkx knx ?_
  rintro k6 rfl sz6
  exact deep_call l D cy sz6 hm ma fv kf af nf tm mkf mnf mbf tt2 kn nn 0 8 bb ss nm (1 + 1) 1 rv 0 1 1 k6 hd2 (by decide) (by decide) (by omega)
end
section
/-- What is left of the refutation: a start that the statement allows, from which the law comes to a call that never comes back. -/
theorem refuted_if {l : Launch} {p : Program} {e : Env} {s V : State} {m mk : MethodId} {args av : Array Value} {below : List Frame} {g : JFrame} {meth : Method} {c : Code}
    (hfl : l.flags = flags0) (hS : AtStart classFile x code maxLocals ret World_1 tables_1 room_1 Calls_1 rest_1 Pre_1 l p e s m args below) (hb : ∀ g r, below ≠ .native g :: r)
    (hst : Steps p.tables e below s V) (hV : V.frames = .invoking mk av :: .java g :: below)
    (hm : V.vm.method? g.method = some meth) (hcode : meth.code = some c) (hx : c.exceptionTable = #[]) (hl : meth.locks = false) (h1 : g.locked = none) (h2 : g.entered = [])
    (hd : Dm p.tables e (.java g :: below) V) : ¬ Claimed_1_1 := by
  intro hC
  obtain ⟨hL, hW, ha, -, hc, hk, hf, hfit, hheap, happ, q1, q2, q3⟩ := hS
  obtain ⟨n, o, hw, -, hend, hpost⟩ := hC l hfl hL hW p e ha hc hk s m args below hf hfit hheap happ ⟨q1, q2, q3⟩
  have hdoom : Dm p.tables e below s := dm_back hst (dm_over hm hcode hx hl h1 h2 hd)
  cases o with
  | returned v => exact (hdoom n hw).not_returned hb v hend
  | threw a => exact absurd hpost.1 (by simp [limb_1_1, postC, Cond.after, Cond.holds, Cond.value])
end
