-- ===== PART A: goes FIRST, ahead of the names: the tables' words, and 'selects' of the private methods out of them =====
/-- a private method of a class that the tables say can be made, by its rows of tables_1 -/
def lw_okq (q : MethodName × Nat) : Prop := (q.1.cls ≠ "java/lang/invoke/MethodHandle" ∧ q.1.cls ≠ "java/lang/invoke/VarHandle") ∧ Cond.instantiable q.1.cls q.2 ∈ tables_1 ∧ Cond.privateMethod q.1 ∈ tables_1 ∧ Cond.instanceMethod q.1 ∈ tables_1
theorem lw_p0 : lw_okq (⟨"VariantBoard", "begin", "()V"⟩, 12) := ⟨⟨by decide +kernel, by decide +kernel⟩, List.mem_of_getElem? (i := 21) (by decide +kernel), List.mem_of_getElem? (i := 271) (by decide +kernel), List.mem_of_getElem? (i := 272) (by decide +kernel)⟩
theorem lw_p1 : lw_okq (⟨"VariantBoard$PartReader", "readParts", "(LVariantBoard$Line;)I"⟩, 4) := ⟨⟨by decide +kernel, by decide +kernel⟩, List.mem_of_getElem? (i := 112) (by decide +kernel), List.mem_of_getElem? (i := 446) (by decide +kernel), List.mem_of_getElem? (i := 447) (by decide +kernel)⟩
theorem lw_p2 : lw_okq (⟨"VariantBoard$PartReader", "addPart", "(II)V"⟩, 4) := ⟨⟨by decide +kernel, by decide +kernel⟩, List.mem_of_getElem? (i := 112) (by decide +kernel), List.mem_of_getElem? (i := 512) (by decide +kernel), List.mem_of_getElem? (i := 513) (by decide +kernel)⟩
theorem lw_p3 : lw_okq (⟨"VariantBoard", "readPosition", "(LVariantBoard$Position;)I"⟩, 12) := ⟨⟨by decide +kernel, by decide +kernel⟩, List.mem_of_getElem? (i := 21) (by decide +kernel), List.mem_of_getElem? (i := 556) (by decide +kernel), List.mem_of_getElem? (i := 557) (by decide +kernel)⟩
theorem lw_p4 : lw_okq (⟨"VariantBoard", "isSquare", "(I)Z"⟩, 12) := ⟨⟨by decide +kernel, by decide +kernel⟩, List.mem_of_getElem? (i := 21) (by decide +kernel), List.mem_of_getElem? (i := 618) (by decide +kernel), List.mem_of_getElem? (i := 619) (by decide +kernel)⟩
theorem lw_p5 : lw_okq (⟨"VariantBoard", "listLegal", "()V"⟩, 12) := ⟨⟨by decide +kernel, by decide +kernel⟩, List.mem_of_getElem? (i := 21) (by decide +kernel), List.mem_of_getElem? (i := 641) (by decide +kernel), List.mem_of_getElem? (i := 642) (by decide +kernel)⟩
theorem lw_p6 : lw_okq (⟨"VariantBoard$Play", "addTargets", "(LVariantBoard$Position;ILVariantBoard$MoveList;)V"⟩, 1) := ⟨⟨by decide +kernel, by decide +kernel⟩, List.mem_of_getElem? (i := 102) (by decide +kernel), List.mem_of_getElem? (i := 661) (by decide +kernel), List.mem_of_getElem? (i := 662) (by decide +kernel)⟩
theorem lw_p7 : lw_okq (⟨"VariantBoard$Play", "ends", "(LVariantBoard$Position;IJJ)J"⟩, 1) := ⟨⟨by decide +kernel, by decide +kernel⟩, List.mem_of_getElem? (i := 102) (by decide +kernel), List.mem_of_getElem? (i := 674) (by decide +kernel), List.mem_of_getElem? (i := 675) (by decide +kernel)⟩
theorem lw_p8 : lw_okq (⟨"VariantBoard$Play", "isPossible", "(LVariantBoard$Position;I)Z"⟩, 1) := ⟨⟨by decide +kernel, by decide +kernel⟩, List.mem_of_getElem? (i := 102) (by decide +kernel), List.mem_of_getElem? (i := 700) (by decide +kernel), List.mem_of_getElem? (i := 701) (by decide +kernel)⟩
theorem lw_p9 : lw_okq (⟨"VariantBoard$Play", "addDrops", "(LVariantBoard$Position;ILVariantBoard$MoveList;)V"⟩, 1) := ⟨⟨by decide +kernel, by decide +kernel⟩, List.mem_of_getElem? (i := 102) (by decide +kernel), List.mem_of_getElem? (i := 722) (by decide +kernel), List.mem_of_getElem? (i := 723) (by decide +kernel)⟩
theorem lw_p10 : lw_okq (⟨"VariantBoard$Play", "rightsTouched", "(I)I"⟩, 1) := ⟨⟨by decide +kernel, by decide +kernel⟩, List.mem_of_getElem? (i := 102) (by decide +kernel), List.mem_of_getElem? (i := 762) (by decide +kernel), List.mem_of_getElem? (i := 763) (by decide +kernel)⟩
theorem lw_p11 : lw_okq (⟨"VariantBoard$Play", "moveTwo", "(LVariantBoard$Position;III)V"⟩, 1) := ⟨⟨by decide +kernel, by decide +kernel⟩, List.mem_of_getElem? (i := 102) (by decide +kernel), List.mem_of_getElem? (i := 766) (by decide +kernel), List.mem_of_getElem? (i := 767) (by decide +kernel)⟩
theorem lw_p12 : lw_okq (⟨"VariantBoard$Play", "royalMen", "(LVariantBoard$Position;I)J"⟩, 1) := ⟨⟨by decide +kernel, by decide +kernel⟩, List.mem_of_getElem? (i := 102) (by decide +kernel), List.mem_of_getElem? (i := 784) (by decide +kernel), List.mem_of_getElem? (i := 785) (by decide +kernel)⟩
theorem lw_p13 : lw_okq (⟨"VariantBoard", "isOfKind", "(II)Z"⟩, 12) := ⟨⟨by decide +kernel, by decide +kernel⟩, List.mem_of_getElem? (i := 21) (by decide +kernel), List.mem_of_getElem? (i := 794) (by decide +kernel), List.mem_of_getElem? (i := 795) (by decide +kernel)⟩
theorem lw_p14 : lw_okq (⟨"VariantBoard", "fromSquare", "(I)I"⟩, 12) := ⟨⟨by decide +kernel, by decide +kernel⟩, List.mem_of_getElem? (i := 21) (by decide +kernel), List.mem_of_getElem? (i := 805) (by decide +kernel), List.mem_of_getElem? (i := 806) (by decide +kernel)⟩
theorem lw_p15 : lw_okq (⟨"VariantBoard", "toSquare", "(I)I"⟩, 12) := ⟨⟨by decide +kernel, by decide +kernel⟩, List.mem_of_getElem? (i := 21) (by decide +kernel), List.mem_of_getElem? (i := 811) (by decide +kernel), List.mem_of_getElem? (i := 812) (by decide +kernel)⟩
def lw_privs_1 : List (MethodName × Nat) := [(⟨"VariantBoard", "begin", "()V"⟩, 12), (⟨"VariantBoard$PartReader", "readParts", "(LVariantBoard$Line;)I"⟩, 4), (⟨"VariantBoard$PartReader", "addPart", "(II)V"⟩, 4), (⟨"VariantBoard", "readPosition", "(LVariantBoard$Position;)I"⟩, 12), (⟨"VariantBoard", "isSquare", "(I)Z"⟩, 12), (⟨"VariantBoard", "listLegal", "()V"⟩, 12), (⟨"VariantBoard$Play", "addTargets", "(LVariantBoard$Position;ILVariantBoard$MoveList;)V"⟩, 1), (⟨"VariantBoard$Play", "ends", "(LVariantBoard$Position;IJJ)J"⟩, 1), (⟨"VariantBoard$Play", "isPossible", "(LVariantBoard$Position;I)Z"⟩, 1), (⟨"VariantBoard$Play", "addDrops", "(LVariantBoard$Position;ILVariantBoard$MoveList;)V"⟩, 1), (⟨"VariantBoard$Play", "rightsTouched", "(I)I"⟩, 1), (⟨"VariantBoard$Play", "moveTwo", "(LVariantBoard$Position;III)V"⟩, 1), (⟨"VariantBoard$Play", "royalMen", "(LVariantBoard$Position;I)J"⟩, 1), (⟨"VariantBoard", "isOfKind", "(II)Z"⟩, 12), (⟨"VariantBoard", "fromSquare", "(I)I"⟩, 12), (⟨"VariantBoard", "toSquare", "(I)I"⟩, 12)]
theorem lw_r1 : ∀ q ∈ lw_privs_1, lw_okq q := List.forall_mem_cons.mpr ⟨lw_p0, List.forall_mem_cons.mpr ⟨lw_p1, List.forall_mem_cons.mpr ⟨lw_p2, List.forall_mem_cons.mpr ⟨lw_p3, List.forall_mem_cons.mpr ⟨lw_p4, List.forall_mem_cons.mpr ⟨lw_p5, List.forall_mem_cons.mpr ⟨lw_p6, List.forall_mem_cons.mpr ⟨lw_p7, List.forall_mem_cons.mpr ⟨lw_p8, List.forall_mem_cons.mpr ⟨lw_p9, List.forall_mem_cons.mpr ⟨lw_p10, List.forall_mem_cons.mpr ⟨lw_p11, List.forall_mem_cons.mpr ⟨lw_p12, List.forall_mem_cons.mpr ⟨lw_p13, List.forall_mem_cons.mpr ⟨lw_p14, List.forall_mem_cons.mpr ⟨lw_p15, fun _ h => absurd h List.not_mem_nil⟩⟩⟩⟩⟩⟩⟩⟩⟩⟩⟩⟩⟩⟩⟩⟩
theorem lw_p16 : lw_okq (⟨"VariantBoard", "capturedType", "(I)I"⟩, 12) := ⟨⟨by decide +kernel, by decide +kernel⟩, List.mem_of_getElem? (i := 21) (by decide +kernel), List.mem_of_getElem? (i := 817) (by decide +kernel), List.mem_of_getElem? (i := 818) (by decide +kernel)⟩
theorem lw_p17 : lw_okq (⟨"VariantBoard", "givesCheck", "(I)Z"⟩, 12) := ⟨⟨by decide +kernel, by decide +kernel⟩, List.mem_of_getElem? (i := 21) (by decide +kernel), List.mem_of_getElem? (i := 822) (by decide +kernel), List.mem_of_getElem? (i := 823) (by decide +kernel)⟩
theorem lw_p18 : lw_okq (⟨"VariantBoard", "digestAfter", "(I)I"⟩, 12) := ⟨⟨by decide +kernel, by decide +kernel⟩, List.mem_of_getElem? (i := 21) (by decide +kernel), List.mem_of_getElem? (i := 829) (by decide +kernel), List.mem_of_getElem? (i := 830) (by decide +kernel)⟩
theorem lw_p19 : lw_okq (⟨"VariantBoard", "writeRow", "(I)V"⟩, 12) := ⟨⟨by decide +kernel, by decide +kernel⟩, List.mem_of_getElem? (i := 21) (by decide +kernel), List.mem_of_getElem? (i := 913) (by decide +kernel), List.mem_of_getElem? (i := 914) (by decide +kernel)⟩
theorem lw_p20 : lw_okq (⟨"VariantBoard", "writeEmpty", "(I)V"⟩, 12) := ⟨⟨by decide +kernel, by decide +kernel⟩, List.mem_of_getElem? (i := 21) (by decide +kernel), List.mem_of_getElem? (i := 917) (by decide +kernel), List.mem_of_getElem? (i := 918) (by decide +kernel)⟩
theorem lw_p21 : lw_okq (⟨"VariantBoard", "writeMove", "(I)V"⟩, 12) := ⟨⟨by decide +kernel, by decide +kernel⟩, List.mem_of_getElem? (i := 21) (by decide +kernel), List.mem_of_getElem? (i := 934) (by decide +kernel), List.mem_of_getElem? (i := 935) (by decide +kernel)⟩
theorem lw_p22 : lw_okq (⟨"VariantBoard", "writeSquare", "(I)V"⟩, 12) := ⟨⟨by decide +kernel, by decide +kernel⟩, List.mem_of_getElem? (i := 21) (by decide +kernel), List.mem_of_getElem? (i := 938) (by decide +kernel), List.mem_of_getElem? (i := 939) (by decide +kernel)⟩
theorem lw_p23 : lw_okq (⟨"VariantBoard", "mostMovesAlone", "(I)I"⟩, 12) := ⟨⟨by decide +kernel, by decide +kernel⟩, List.mem_of_getElem? (i := 21) (by decide +kernel), List.mem_of_getElem? (i := 958) (by decide +kernel), List.mem_of_getElem? (i := 959) (by decide +kernel)⟩
theorem lw_p24 : lw_okq (⟨"VariantBoardModel", "begins", "()V"⟩, 19) := ⟨⟨by decide +kernel, by decide +kernel⟩, List.mem_of_getElem? (i := 990) (by decide +kernel), List.mem_of_getElem? (i := 999) (by decide +kernel), List.mem_of_getElem? (i := 1000) (by decide +kernel)⟩
theorem lw_p25 : lw_okq (⟨"VariantBoardModel", "stirs", "()V"⟩, 19) := ⟨⟨by decide +kernel, by decide +kernel⟩, List.mem_of_getElem? (i := 990) (by decide +kernel), List.mem_of_getElem? (i := 1003) (by decide +kernel), List.mem_of_getElem? (i := 1004) (by decide +kernel)⟩
theorem lw_p26 : lw_okq (⟨"VariantBoardModel", "digestOf", "()I"⟩, 19) := ⟨⟨by decide +kernel, by decide +kernel⟩, List.mem_of_getElem? (i := 990) (by decide +kernel), List.mem_of_getElem? (i := 1007) (by decide +kernel), List.mem_of_getElem? (i := 1008) (by decide +kernel)⟩
theorem lw_p27 : lw_okq (⟨"VariantBoardModel", "squares", "()I"⟩, 19) := ⟨⟨by decide +kernel, by decide +kernel⟩, List.mem_of_getElem? (i := 990) (by decide +kernel), List.mem_of_getElem? (i := 1011) (by decide +kernel), List.mem_of_getElem? (i := 1012) (by decide +kernel)⟩
theorem lw_p28 : lw_okq (⟨"VariantBoardModel", "word", "()I"⟩, 19) := ⟨⟨by decide +kernel, by decide +kernel⟩, List.mem_of_getElem? (i := 990) (by decide +kernel), List.mem_of_getElem? (i := 1094) (by decide +kernel), List.mem_of_getElem? (i := 1095) (by decide +kernel)⟩
theorem lw_p29 : lw_okq (⟨"VariantBoardModel", "like", "(I)I"⟩, 19) := ⟨⟨by decide +kernel, by decide +kernel⟩, List.mem_of_getElem? (i := 990) (by decide +kernel), List.mem_of_getElem? (i := 1100) (by decide +kernel), List.mem_of_getElem? (i := 1101) (by decide +kernel)⟩
theorem lw_p30 : lw_okq (⟨"VariantBoardModel", "parts", "([II)I"⟩, 19) := ⟨⟨by decide +kernel, by decide +kernel⟩, List.mem_of_getElem? (i := 990) (by decide +kernel), List.mem_of_getElem? (i := 1108) (by decide +kernel), List.mem_of_getElem? (i := 1109) (by decide +kernel)⟩
theorem lw_p31 : lw_okq (⟨"VariantBoardModel", "sets", "(II)I"⟩, 19) := ⟨⟨by decide +kernel, by decide +kernel⟩, List.mem_of_getElem? (i := 990) (by decide +kernel), List.mem_of_getElem? (i := 1119) (by decide +kernel), List.mem_of_getElem? (i := 1120) (by decide +kernel)⟩
def lw_privs_2 : List (MethodName × Nat) := [(⟨"VariantBoard", "capturedType", "(I)I"⟩, 12), (⟨"VariantBoard", "givesCheck", "(I)Z"⟩, 12), (⟨"VariantBoard", "digestAfter", "(I)I"⟩, 12), (⟨"VariantBoard", "writeRow", "(I)V"⟩, 12), (⟨"VariantBoard", "writeEmpty", "(I)V"⟩, 12), (⟨"VariantBoard", "writeMove", "(I)V"⟩, 12), (⟨"VariantBoard", "writeSquare", "(I)V"⟩, 12), (⟨"VariantBoard", "mostMovesAlone", "(I)I"⟩, 12), (⟨"VariantBoardModel", "begins", "()V"⟩, 19), (⟨"VariantBoardModel", "stirs", "()V"⟩, 19), (⟨"VariantBoardModel", "digestOf", "()I"⟩, 19), (⟨"VariantBoardModel", "squares", "()I"⟩, 19), (⟨"VariantBoardModel", "word", "()I"⟩, 19), (⟨"VariantBoardModel", "like", "(I)I"⟩, 19), (⟨"VariantBoardModel", "parts", "([II)I"⟩, 19), (⟨"VariantBoardModel", "sets", "(II)I"⟩, 19)]
theorem lw_r2 : ∀ q ∈ lw_privs_2, lw_okq q := List.forall_mem_cons.mpr ⟨lw_p16, List.forall_mem_cons.mpr ⟨lw_p17, List.forall_mem_cons.mpr ⟨lw_p18, List.forall_mem_cons.mpr ⟨lw_p19, List.forall_mem_cons.mpr ⟨lw_p20, List.forall_mem_cons.mpr ⟨lw_p21, List.forall_mem_cons.mpr ⟨lw_p22, List.forall_mem_cons.mpr ⟨lw_p23, List.forall_mem_cons.mpr ⟨lw_p24, List.forall_mem_cons.mpr ⟨lw_p25, List.forall_mem_cons.mpr ⟨lw_p26, List.forall_mem_cons.mpr ⟨lw_p27, List.forall_mem_cons.mpr ⟨lw_p28, List.forall_mem_cons.mpr ⟨lw_p29, List.forall_mem_cons.mpr ⟨lw_p30, List.forall_mem_cons.mpr ⟨lw_p31, fun _ h => absurd h List.not_mem_nil⟩⟩⟩⟩⟩⟩⟩⟩⟩⟩⟩⟩⟩⟩⟩⟩
theorem lw_p32 : lw_okq (⟨"VariantBoardModel", "position", "([I)I"⟩, 19) := ⟨⟨by decide +kernel, by decide +kernel⟩, List.mem_of_getElem? (i := 990) (by decide +kernel), List.mem_of_getElem? (i := 1131) (by decide +kernel), List.mem_of_getElem? (i := 1132) (by decide +kernel)⟩
theorem lw_p33 : lw_okq (⟨"VariantBoardModel", "letter", "(I)I"⟩, 19) := ⟨⟨by decide +kernel, by decide +kernel⟩, List.mem_of_getElem? (i := 990) (by decide +kernel), List.mem_of_getElem? (i := 1135) (by decide +kernel), List.mem_of_getElem? (i := 1136) (by decide +kernel)⟩
theorem lw_p34 : lw_okq (⟨"VariantBoardModel", "isDefined", "(I)Z"⟩, 19) := ⟨⟨by decide +kernel, by decide +kernel⟩, List.mem_of_getElem? (i := 990) (by decide +kernel), List.mem_of_getElem? (i := 1139) (by decide +kernel), List.mem_of_getElem? (i := 1140) (by decide +kernel)⟩
theorem lw_p35 : lw_okq (⟨"VariantBoardModel", "men", "()I"⟩, 19) := ⟨⟨by decide +kernel, by decide +kernel⟩, List.mem_of_getElem? (i := 990) (by decide +kernel), List.mem_of_getElem? (i := 1143) (by decide +kernel), List.mem_of_getElem? (i := 1144) (by decide +kernel)⟩
theorem lw_p36 : lw_okq (⟨"VariantBoardModel", "man", "(I)I"⟩, 19) := ⟨⟨by decide +kernel, by decide +kernel⟩, List.mem_of_getElem? (i := 990) (by decide +kernel), List.mem_of_getElem? (i := 1147) (by decide +kernel), List.mem_of_getElem? (i := 1148) (by decide +kernel)⟩
theorem lw_p37 : lw_okq (⟨"VariantBoardModel", "isSquare", "(I)Z"⟩, 19) := ⟨⟨by decide +kernel, by decide +kernel⟩, List.mem_of_getElem? (i := 990) (by decide +kernel), List.mem_of_getElem? (i := 1163) (by decide +kernel), List.mem_of_getElem? (i := 1164) (by decide +kernel)⟩
theorem lw_p38 : lw_okq (⟨"VariantBoardModel", "row", "(I)I"⟩, 19) := ⟨⟨by decide +kernel, by decide +kernel⟩, List.mem_of_getElem? (i := 990) (by decide +kernel), List.mem_of_getElem? (i := 1167) (by decide +kernel), List.mem_of_getElem? (i := 1168) (by decide +kernel)⟩
theorem lw_p39 : lw_okq (⟨"VariantBoardModel", "castles", "(Z)I"⟩, 19) := ⟨⟨by decide +kernel, by decide +kernel⟩, List.mem_of_getElem? (i := 990) (by decide +kernel), List.mem_of_getElem? (i := 1171) (by decide +kernel), List.mem_of_getElem? (i := 1172) (by decide +kernel)⟩
theorem lw_p40 : lw_okq (⟨"VariantBoardModel", "looks", "()V"⟩, 19) := ⟨⟨by decide +kernel, by decide +kernel⟩, List.mem_of_getElem? (i := 990) (by decide +kernel), List.mem_of_getElem? (i := 1183) (by decide +kernel), List.mem_of_getElem? (i := 1184) (by decide +kernel)⟩
theorem lw_p41 : lw_okq (⟨"VariantBoardModel", "lists", "(I)V"⟩, 19) := ⟨⟨by decide +kernel, by decide +kernel⟩, List.mem_of_getElem? (i := 990) (by decide +kernel), List.mem_of_getElem? (i := 1187) (by decide +kernel), List.mem_of_getElem? (i := 1188) (by decide +kernel)⟩
theorem lw_p42 : lw_okq (⟨"VariantBoardModel", "isOf", "(II)Z"⟩, 19) := ⟨⟨by decide +kernel, by decide +kernel⟩, List.mem_of_getElem? (i := 990) (by decide +kernel), List.mem_of_getElem? (i := 1191) (by decide +kernel), List.mem_of_getElem? (i := 1192) (by decide +kernel)⟩
theorem lw_p43 : lw_okq (⟨"VariantBoardModel", "all", "(IIIZ)J"⟩, 19) := ⟨⟨by decide +kernel, by decide +kernel⟩, List.mem_of_getElem? (i := 990) (by decide +kernel), List.mem_of_getElem? (i := 1195) (by decide +kernel), List.mem_of_getElem? (i := 1196) (by decide +kernel)⟩
theorem lw_p44 : lw_okq (⟨"VariantBoardModel", "reaches", "(IIIZ)J"⟩, 19) := ⟨⟨by decide +kernel, by decide +kernel⟩, List.mem_of_getElem? (i := 990) (by decide +kernel), List.mem_of_getElem? (i := 1199) (by decide +kernel), List.mem_of_getElem? (i := 1200) (by decide +kernel)⟩
theorem lw_p45 : lw_okq (⟨"VariantBoardModel", "directions", "(II)V"⟩, 19) := ⟨⟨by decide +kernel, by decide +kernel⟩, List.mem_of_getElem? (i := 990) (by decide +kernel), List.mem_of_getElem? (i := 1203) (by decide +kernel), List.mem_of_getElem? (i := 1204) (by decide +kernel)⟩
theorem lw_p46 : lw_okq (⟨"VariantBoardModel", "steps", "(IIII)V"⟩, 19) := ⟨⟨by decide +kernel, by decide +kernel⟩, List.mem_of_getElem? (i := 990) (by decide +kernel), List.mem_of_getElem? (i := 1207) (by decide +kernel), List.mem_of_getElem? (i := 1208) (by decide +kernel)⟩
theorem lw_p47 : lw_okq (⟨"VariantBoardModel", "direction", "(IIII)V"⟩, 19) := ⟨⟨by decide +kernel, by decide +kernel⟩, List.mem_of_getElem? (i := 990) (by decide +kernel), List.mem_of_getElem? (i := 1211) (by decide +kernel), List.mem_of_getElem? (i := 1212) (by decide +kernel)⟩
def lw_privs_3 : List (MethodName × Nat) := [(⟨"VariantBoardModel", "position", "([I)I"⟩, 19), (⟨"VariantBoardModel", "letter", "(I)I"⟩, 19), (⟨"VariantBoardModel", "isDefined", "(I)Z"⟩, 19), (⟨"VariantBoardModel", "men", "()I"⟩, 19), (⟨"VariantBoardModel", "man", "(I)I"⟩, 19), (⟨"VariantBoardModel", "isSquare", "(I)Z"⟩, 19), (⟨"VariantBoardModel", "row", "(I)I"⟩, 19), (⟨"VariantBoardModel", "castles", "(Z)I"⟩, 19), (⟨"VariantBoardModel", "looks", "()V"⟩, 19), (⟨"VariantBoardModel", "lists", "(I)V"⟩, 19), (⟨"VariantBoardModel", "isOf", "(II)Z"⟩, 19), (⟨"VariantBoardModel", "all", "(IIIZ)J"⟩, 19), (⟨"VariantBoardModel", "reaches", "(IIIZ)J"⟩, 19), (⟨"VariantBoardModel", "directions", "(II)V"⟩, 19), (⟨"VariantBoardModel", "steps", "(IIII)V"⟩, 19), (⟨"VariantBoardModel", "direction", "(IIII)V"⟩, 19)]
theorem lw_r3 : ∀ q ∈ lw_privs_3, lw_okq q := List.forall_mem_cons.mpr ⟨lw_p32, List.forall_mem_cons.mpr ⟨lw_p33, List.forall_mem_cons.mpr ⟨lw_p34, List.forall_mem_cons.mpr ⟨lw_p35, List.forall_mem_cons.mpr ⟨lw_p36, List.forall_mem_cons.mpr ⟨lw_p37, List.forall_mem_cons.mpr ⟨lw_p38, List.forall_mem_cons.mpr ⟨lw_p39, List.forall_mem_cons.mpr ⟨lw_p40, List.forall_mem_cons.mpr ⟨lw_p41, List.forall_mem_cons.mpr ⟨lw_p42, List.forall_mem_cons.mpr ⟨lw_p43, List.forall_mem_cons.mpr ⟨lw_p44, List.forall_mem_cons.mpr ⟨lw_p45, List.forall_mem_cons.mpr ⟨lw_p46, List.forall_mem_cons.mpr ⟨lw_p47, fun _ h => absurd h List.not_mem_nil⟩⟩⟩⟩⟩⟩⟩⟩⟩⟩⟩⟩⟩⟩⟩⟩
theorem lw_p48 : lw_okq (⟨"VariantBoardModel", "isEmpty", "(I)Z"⟩, 19) := ⟨⟨by decide +kernel, by decide +kernel⟩, List.mem_of_getElem? (i := 990) (by decide +kernel), List.mem_of_getElem? (i := 1215) (by decide +kernel), List.mem_of_getElem? (i := 1216) (by decide +kernel)⟩
theorem lw_p49 : lw_okq (⟨"VariantBoardModel", "adds", "(IIIII)V"⟩, 19) := ⟨⟨by decide +kernel, by decide +kernel⟩, List.mem_of_getElem? (i := 990) (by decide +kernel), List.mem_of_getElem? (i := 1222) (by decide +kernel), List.mem_of_getElem? (i := 1223) (by decide +kernel)⟩
theorem lw_p50 : lw_okq (⟨"VariantBoardModel", "keeps", "(I)V"⟩, 19) := ⟨⟨by decide +kernel, by decide +kernel⟩, List.mem_of_getElem? (i := 990) (by decide +kernel), List.mem_of_getElem? (i := 1226) (by decide +kernel), List.mem_of_getElem? (i := 1227) (by decide +kernel)⟩
theorem lw_p51 : lw_okq (⟨"VariantBoardModel", "plays", "(IIII)V"⟩, 19) := ⟨⟨by decide +kernel, by decide +kernel⟩, List.mem_of_getElem? (i := 990) (by decide +kernel), List.mem_of_getElem? (i := 1230) (by decide +kernel), List.mem_of_getElem? (i := 1231) (by decide +kernel)⟩
theorem lw_p52 : lw_okq (⟨"VariantBoardModel", "touches", "(I)V"⟩, 19) := ⟨⟨by decide +kernel, by decide +kernel⟩, List.mem_of_getElem? (i := 990) (by decide +kernel), List.mem_of_getElem? (i := 1234) (by decide +kernel), List.mem_of_getElem? (i := 1235) (by decide +kernel)⟩
theorem lw_p53 : lw_okq (⟨"VariantBoardModel", "arrives", "(III)I"⟩, 19) := ⟨⟨by decide +kernel, by decide +kernel⟩, List.mem_of_getElem? (i := 990) (by decide +kernel), List.mem_of_getElem? (i := 1239) (by decide +kernel), List.mem_of_getElem? (i := 1240) (by decide +kernel)⟩
theorem lw_p54 : lw_okq (⟨"VariantBoardModel", "promotion", "(I)I"⟩, 19) := ⟨⟨by decide +kernel, by decide +kernel⟩, List.mem_of_getElem? (i := 990) (by decide +kernel), List.mem_of_getElem? (i := 1243) (by decide +kernel), List.mem_of_getElem? (i := 1244) (by decide +kernel)⟩
theorem lw_p55 : lw_okq (⟨"VariantBoardModel", "isFar", "(II)Z"⟩, 19) := ⟨⟨by decide +kernel, by decide +kernel⟩, List.mem_of_getElem? (i := 990) (by decide +kernel), List.mem_of_getElem? (i := 1247) (by decide +kernel), List.mem_of_getElem? (i := 1248) (by decide +kernel)⟩
theorem lw_p56 : lw_okq (⟨"VariantBoardModel", "isSafe", "(I)Z"⟩, 19) := ⟨⟨by decide +kernel, by decide +kernel⟩, List.mem_of_getElem? (i := 990) (by decide +kernel), List.mem_of_getElem? (i := 1251) (by decide +kernel), List.mem_of_getElem? (i := 1252) (by decide +kernel)⟩
theorem lw_p57 : lw_okq (⟨"VariantBoardModel", "royals", "(I)J"⟩, 19) := ⟨⟨by decide +kernel, by decide +kernel⟩, List.mem_of_getElem? (i := 990) (by decide +kernel), List.mem_of_getElem? (i := 1255) (by decide +kernel), List.mem_of_getElem? (i := 1256) (by decide +kernel)⟩
theorem lw_p58 : lw_okq (⟨"VariantBoardModel", "attackedBy", "(I)J"⟩, 19) := ⟨⟨by decide +kernel, by decide +kernel⟩, List.mem_of_getElem? (i := 990) (by decide +kernel), List.mem_of_getElem? (i := 1259) (by decide +kernel), List.mem_of_getElem? (i := 1260) (by decide +kernel)⟩
theorem lw_p59 : lw_okq (⟨"VariantBoardModel", "again", "(I)V"⟩, 19) := ⟨⟨by decide +kernel, by decide +kernel⟩, List.mem_of_getElem? (i := 990) (by decide +kernel), List.mem_of_getElem? (i := 1263) (by decide +kernel), List.mem_of_getElem? (i := 1264) (by decide +kernel)⟩
theorem lw_p60 : lw_okq (⟨"VariantBoardModel", "canCastle", "(I)Z"⟩, 19) := ⟨⟨by decide +kernel, by decide +kernel⟩, List.mem_of_getElem? (i := 990) (by decide +kernel), List.mem_of_getElem? (i := 1267) (by decide +kernel), List.mem_of_getElem? (i := 1268) (by decide +kernel)⟩
theorem lw_p61 : lw_okq (⟨"VariantBoardModel", "isClear", "(II)Z"⟩, 19) := ⟨⟨by decide +kernel, by decide +kernel⟩, List.mem_of_getElem? (i := 990) (by decide +kernel), List.mem_of_getElem? (i := 1271) (by decide +kernel), List.mem_of_getElem? (i := 1272) (by decide +kernel)⟩
theorem lw_p62 : lw_okq (⟨"VariantBoardModel", "captures", "(I)Z"⟩, 19) := ⟨⟨by decide +kernel, by decide +kernel⟩, List.mem_of_getElem? (i := 990) (by decide +kernel), List.mem_of_getElem? (i := 1275) (by decide +kernel), List.mem_of_getElem? (i := 1276) (by decide +kernel)⟩
theorem lw_p63 : lw_okq (⟨"VariantBoardModel", "promotes", "(I)Z"⟩, 19) := ⟨⟨by decide +kernel, by decide +kernel⟩, List.mem_of_getElem? (i := 990) (by decide +kernel), List.mem_of_getElem? (i := 1279) (by decide +kernel), List.mem_of_getElem? (i := 1280) (by decide +kernel)⟩
def lw_privs_4 : List (MethodName × Nat) := [(⟨"VariantBoardModel", "isEmpty", "(I)Z"⟩, 19), (⟨"VariantBoardModel", "adds", "(IIIII)V"⟩, 19), (⟨"VariantBoardModel", "keeps", "(I)V"⟩, 19), (⟨"VariantBoardModel", "plays", "(IIII)V"⟩, 19), (⟨"VariantBoardModel", "touches", "(I)V"⟩, 19), (⟨"VariantBoardModel", "arrives", "(III)I"⟩, 19), (⟨"VariantBoardModel", "promotion", "(I)I"⟩, 19), (⟨"VariantBoardModel", "isFar", "(II)Z"⟩, 19), (⟨"VariantBoardModel", "isSafe", "(I)Z"⟩, 19), (⟨"VariantBoardModel", "royals", "(I)J"⟩, 19), (⟨"VariantBoardModel", "attackedBy", "(I)J"⟩, 19), (⟨"VariantBoardModel", "again", "(I)V"⟩, 19), (⟨"VariantBoardModel", "canCastle", "(I)Z"⟩, 19), (⟨"VariantBoardModel", "isClear", "(II)Z"⟩, 19), (⟨"VariantBoardModel", "captures", "(I)Z"⟩, 19), (⟨"VariantBoardModel", "promotes", "(I)Z"⟩, 19)]
theorem lw_r4 : ∀ q ∈ lw_privs_4, lw_okq q := List.forall_mem_cons.mpr ⟨lw_p48, List.forall_mem_cons.mpr ⟨lw_p49, List.forall_mem_cons.mpr ⟨lw_p50, List.forall_mem_cons.mpr ⟨lw_p51, List.forall_mem_cons.mpr ⟨lw_p52, List.forall_mem_cons.mpr ⟨lw_p53, List.forall_mem_cons.mpr ⟨lw_p54, List.forall_mem_cons.mpr ⟨lw_p55, List.forall_mem_cons.mpr ⟨lw_p56, List.forall_mem_cons.mpr ⟨lw_p57, List.forall_mem_cons.mpr ⟨lw_p58, List.forall_mem_cons.mpr ⟨lw_p59, List.forall_mem_cons.mpr ⟨lw_p60, List.forall_mem_cons.mpr ⟨lw_p61, List.forall_mem_cons.mpr ⟨lw_p62, List.forall_mem_cons.mpr ⟨lw_p63, fun _ h => absurd h List.not_mem_nil⟩⟩⟩⟩⟩⟩⟩⟩⟩⟩⟩⟩⟩⟩⟩⟩
theorem lw_p64 : lw_okq (⟨"VariantBoardModel", "typeOf", "(I)I"⟩, 19) := ⟨⟨by decide +kernel, by decide +kernel⟩, List.mem_of_getElem? (i := 990) (by decide +kernel), List.mem_of_getElem? (i := 1287) (by decide +kernel), List.mem_of_getElem? (i := 1288) (by decide +kernel)⟩
theorem lw_p65 : lw_okq (⟨"VariantBoardModel", "ahead", "(IZ)I"⟩, 19) := ⟨⟨by decide +kernel, by decide +kernel⟩, List.mem_of_getElem? (i := 990) (by decide +kernel), List.mem_of_getElem? (i := 1291) (by decide +kernel), List.mem_of_getElem? (i := 1292) (by decide +kernel)⟩
theorem lw_p66 : lw_okq (⟨"VariantBoardModel", "occurrences", "()I"⟩, 19) := ⟨⟨by decide +kernel, by decide +kernel⟩, List.mem_of_getElem? (i := 990) (by decide +kernel), List.mem_of_getElem? (i := 1303) (by decide +kernel), List.mem_of_getElem? (i := 1304) (by decide +kernel)⟩
theorem lw_p67 : lw_okq (⟨"VariantBoardModel", "writes", "()I"⟩, 19) := ⟨⟨by decide +kernel, by decide +kernel⟩, List.mem_of_getElem? (i := 990) (by decide +kernel), List.mem_of_getElem? (i := 1332) (by decide +kernel), List.mem_of_getElem? (i := 1333) (by decide +kernel)⟩
theorem lw_p68 : lw_okq (⟨"VariantBoardModel", "answers", "(II)I"⟩, 19) := ⟨⟨by decide +kernel, by decide +kernel⟩, List.mem_of_getElem? (i := 990) (by decide +kernel), List.mem_of_getElem? (i := 1339) (by decide +kernel), List.mem_of_getElem? (i := 1340) (by decide +kernel)⟩
theorem lw_p69 : lw_okq (⟨"VariantBoardModel", "square", "(II)I"⟩, 19) := ⟨⟨by decide +kernel, by decide +kernel⟩, List.mem_of_getElem? (i := 990) (by decide +kernel), List.mem_of_getElem? (i := 1347) (by decide +kernel), List.mem_of_getElem? (i := 1348) (by decide +kernel)⟩
theorem lw_p70 : lw_okq (⟨"VariantBoardModel", "freedom", "(I)I"⟩, 19) := ⟨⟨by decide +kernel, by decide +kernel⟩, List.mem_of_getElem? (i := 990) (by decide +kernel), List.mem_of_getElem? (i := 1355) (by decide +kernel), List.mem_of_getElem? (i := 1356) (by decide +kernel)⟩
def lw_privs_5 : List (MethodName × Nat) := [(⟨"VariantBoardModel", "typeOf", "(I)I"⟩, 19), (⟨"VariantBoardModel", "ahead", "(IZ)I"⟩, 19), (⟨"VariantBoardModel", "occurrences", "()I"⟩, 19), (⟨"VariantBoardModel", "writes", "()I"⟩, 19), (⟨"VariantBoardModel", "answers", "(II)I"⟩, 19), (⟨"VariantBoardModel", "square", "(II)I"⟩, 19), (⟨"VariantBoardModel", "freedom", "(I)I"⟩, 19)]
theorem lw_r5 : ∀ q ∈ lw_privs_5, lw_okq q := List.forall_mem_cons.mpr ⟨lw_p64, List.forall_mem_cons.mpr ⟨lw_p65, List.forall_mem_cons.mpr ⟨lw_p66, List.forall_mem_cons.mpr ⟨lw_p67, List.forall_mem_cons.mpr ⟨lw_p68, List.forall_mem_cons.mpr ⟨lw_p69, List.forall_mem_cons.mpr ⟨lw_p70, fun _ h => absurd h List.not_mem_nil⟩⟩⟩⟩⟩⟩⟩
def lw_privs : List (MethodName × Nat) := lw_privs_1 ++ (lw_privs_2 ++ (lw_privs_3 ++ (lw_privs_4 ++ (lw_privs_5))))
def lw_tbl : List Cond := k2_sels lw_privs ++ tables_1
theorem lw_privs_ok : ∀ q ∈ lw_privs, lw_okq q := by
  show ∀ q ∈ lw_privs_1 ++ (lw_privs_2 ++ (lw_privs_3 ++ (lw_privs_4 ++ (lw_privs_5)))), lw_okq q
  exact List.forall_mem_append.mpr ⟨lw_r1, List.forall_mem_append.mpr ⟨lw_r2, List.forall_mem_append.mpr ⟨lw_r3, List.forall_mem_append.mpr ⟨lw_r4, lw_r5⟩⟩⟩⟩
def RX0 : String := "VariantBoard$Counter"
def TX0 : u_T := fun k => match k with
  | 0 => ("VariantBoard$Counter", "play", "LVariantBoard$Play;", true)
  | 1 => ("VariantBoard$Counter", "firstMoves", "LVariantBoard$MoveList;", true)
  | 2 => ("VariantBoard$Counter", "secondMoves", "LVariantBoard$MoveList;", true)
  | 3 => ("VariantBoard$Counter", "firstCopy", "LVariantBoard$Position;", true)
  | _ => ("VariantBoard$Counter", "secondCopy", "LVariantBoard$Position;", true)
def tyX0 : Nat → FieldType := fun k => match k with
  | 0 => .object "VariantBoard$Play"
  | 1 => .object "VariantBoard$MoveList"
  | 2 => .object "VariantBoard$MoveList"
  | 3 => .object "VariantBoard$Position"
  | _ => .object "VariantBoard$Position"
abbrev wsX00 : List Cond := u_ws RX0 TX0 5
theorem nmX0 : ∀ a, a < 5 → ∀ b, b < 5 → a ≠ b → (TX0 a).2.1 ≠ (TX0 b).2.1 := by decide +kernel
theorem tyX0_ok : ∀ k, k < 5 → parseFieldDescriptor (TX0 k).2.2.1 = some (tyX0 k) := by decide +kernel
abbrev cX0_init : ByteArray := prog_2_method_1_code
def yX0_init : MethodName := ⟨RX0, "<init>", "(LVariantBoard$Play;)V"⟩
abbrev cX0_movesMade : ByteArray := prog_2_method_2_code
def yX0_movesMade : MethodName := ⟨RX0, "movesMade", "(LVariantBoard$Position;)I"⟩
abbrev cX0_pairsMade : ByteArray := prog_2_method_3_code
def yX0_pairsMade : MethodName := ⟨RX0, "pairsMade", "(LVariantBoard$Position;)I"⟩
abbrev cX0_movesCopied : ByteArray := prog_2_method_4_code
def yX0_movesCopied : MethodName := ⟨RX0, "movesCopied", "(LVariantBoard$Position;)I"⟩
abbrev cX0_pairsCopied : ByteArray := prog_2_method_5_code
def yX0_pairsCopied : MethodName := ⟨RX0, "pairsCopied", "(LVariantBoard$Position;)I"⟩
def RX1 : String := "VariantBoard$Laws"
def TX1 : u_T := fun k => match k with
  | 0 => ("VariantBoard$Laws", "partCounts", "[I", true)
  | 1 => ("VariantBoard$Laws", "atoms", "[I", true)
  | 2 => ("VariantBoard$Laws", "marks", "[I", true)
  | 3 => ("VariantBoard$Laws", "reaches", "[I", true)
  | 4 => ("VariantBoard$Laws", "directions", "[I", true)
  | 5 => ("VariantBoard$Laws", "royals", "[I", true)
  | 6 => ("VariantBoard$Laws", "promotions", "[I", true)
  | 7 => ("VariantBoard$Laws", "castlingSides", "[I", true)
  | 8 => ("VariantBoard$Laws", "castlingSquares", "[I", true)
  | 9 => ("VariantBoard$Laws", "drops", "I", false)
  | _ => ("VariantBoard$Laws", "royalRule", "I", false)
def tyX1 : Nat → FieldType := fun k => match k with
  | 0 => .array .int
  | 1 => .array .int
  | 2 => .array .int
  | 3 => .array .int
  | 4 => .array .int
  | 5 => .array .int
  | 6 => .array .int
  | 7 => .array .int
  | 8 => .array .int
  | 9 => .int
  | _ => .int
abbrev wsX10 : List Cond := u_ws RX1 TX1 11
theorem nmX1 : ∀ a, a < 11 → ∀ b, b < 11 → a ≠ b → (TX1 a).2.1 ≠ (TX1 b).2.1 := by decide +kernel
theorem tyX1_ok : ∀ k, k < 11 → parseFieldDescriptor (TX1 k).2.2.1 = some (tyX1 k) := by decide +kernel
abbrev cX1_init : ByteArray := prog_3_method_1_code
def yX1_init : MethodName := ⟨RX1, "<init>", "()V"⟩
abbrev cX1_copyFrom : ByteArray := prog_3_method_2_code
def yX1_copyFrom : MethodName := ⟨RX1, "copyFrom", "(LVariantBoard$Laws;)V"⟩
abbrev cX1_setParts : ByteArray := prog_3_method_3_code
def yX1_setParts : MethodName := ⟨RX1, "setParts", "(ILVariantBoard$PartReader;)V"⟩
abbrev cX1_directionsOf : ByteArray := prog_3_method_4_code
def yX1_directionsOf : MethodName := ⟨RX1, "directionsOf", "(II)I"⟩
abbrev cX1_partsOf : ByteArray := prog_3_method_5_code
def yX1_partsOf : MethodName := ⟨RX1, "partsOf", "(I)I"⟩
abbrev cX1_directionCount : ByteArray := prog_3_method_6_code
def yX1_directionCount : MethodName := ⟨RX1, "directionCount", "(I)I"⟩
abbrev cX1_isRoyal : ByteArray := prog_3_method_7_code
def yX1_isRoyal : MethodName := ⟨RX1, "isRoyal", "(I)Z"⟩
abbrev cX1_promotionOf : ByteArray := prog_3_method_8_code
def yX1_promotionOf : MethodName := ⟨RX1, "promotionOf", "(I)I"⟩
abbrev cX1_castlings : ByteArray := prog_3_method_9_code
def yX1_castlings : MethodName := ⟨RX1, "castlings", "()I"⟩
abbrev cX1_castlingSquare : ByteArray := prog_3_method_10_code
def yX1_castlingSquare : MethodName := ⟨RX1, "castlingSquare", "(II)I"⟩
abbrev cX1_removeCastlings : ByteArray := prog_3_method_11_code
def yX1_removeCastlings : MethodName := ⟨RX1, "removeCastlings", "()V"⟩
def RX2 : String := "VariantBoard$Line"
def TX2 : u_T := fun k => match k with
  | 0 => ("VariantBoard$Line", "signs", "[I", true)
  | _ => ("VariantBoard$Line", "length", "I", false)
def tyX2 : Nat → FieldType := fun k => match k with
  | 0 => .array .int
  | _ => .int
abbrev wsX20 : List Cond := u_ws RX2 TX2 2
theorem nmX2 : ∀ a, a < 2 → ∀ b, b < 2 → a ≠ b → (TX2 a).2.1 ≠ (TX2 b).2.1 := by decide +kernel
theorem tyX2_ok : ∀ k, k < 2 → parseFieldDescriptor (TX2 k).2.2.1 = some (tyX2 k) := by decide +kernel
abbrev cX2_init : ByteArray := prog_4_method_1_code
def yX2_init : MethodName := ⟨RX2, "<init>", "()V"⟩
abbrev cX2_add : ByteArray := prog_4_method_2_code
def yX2_add : MethodName := ⟨RX2, "add", "(I)Z"⟩
abbrev cX2_signAt : ByteArray := prog_4_method_3_code
def yX2_signAt : MethodName := ⟨RX2, "signAt", "(I)I"⟩
abbrev cX2_answer : ByteArray := prog_4_method_4_code
def yX2_answer : MethodName := ⟨RX2, "answer", "(I)I"⟩
def RX3 : String := "VariantBoard$MoveList"
def TX3 : u_T := fun k => match k with
  | 0 => ("VariantBoard$MoveList", "moves", "[I", true)
  | _ => ("VariantBoard$MoveList", "length", "I", false)
def tyX3 : Nat → FieldType := fun k => match k with
  | 0 => .array .int
  | _ => .int
abbrev wsX30 : List Cond := u_ws RX3 TX3 2
theorem nmX3 : ∀ a, a < 2 → ∀ b, b < 2 → a ≠ b → (TX3 a).2.1 ≠ (TX3 b).2.1 := by decide +kernel
theorem tyX3_ok : ∀ k, k < 2 → parseFieldDescriptor (TX3 k).2.2.1 = some (tyX3 k) := by decide +kernel
abbrev cX3_init : ByteArray := prog_5_method_1_code
def yX3_init : MethodName := ⟨RX3, "<init>", "()V"⟩
abbrev cX3_add : ByteArray := prog_5_method_2_code
def yX3_add : MethodName := ⟨RX3, "add", "(I)V"⟩
abbrev cX3_moveAt : ByteArray := prog_5_method_3_code
def yX3_moveAt : MethodName := ⟨RX3, "moveAt", "(I)I"⟩
def RX4 : String := "VariantBoard$PartReader"
def TX4 : u_T := fun k => match k with
  | 0 => ("VariantBoard$PartReader", "atoms", "[I", true)
  | 1 => ("VariantBoard$PartReader", "marks", "[I", true)
  | 2 => ("VariantBoard$PartReader", "reaches", "[I", true)
  | _ => ("VariantBoard$PartReader", "length", "I", false)
def tyX4 : Nat → FieldType := fun k => match k with
  | 0 => .array .int
  | 1 => .array .int
  | 2 => .array .int
  | _ => .int
abbrev wsX40 : List Cond := u_ws RX4 TX4 4
theorem nmX4 : ∀ a, a < 4 → ∀ b, b < 4 → a ≠ b → (TX4 a).2.1 ≠ (TX4 b).2.1 := by decide +kernel
theorem tyX4_ok : ∀ k, k < 4 → parseFieldDescriptor (TX4 k).2.2.1 = some (tyX4 k) := by decide +kernel
abbrev cX4_init : ByteArray := prog_6_method_1_code
def yX4_init : MethodName := ⟨RX4, "<init>", "()V"⟩
abbrev cX4_read : ByteArray := prog_6_method_2_code
def yX4_read : MethodName := ⟨RX4, "read", "(LVariantBoard$Line;)I"⟩
abbrev cX4_readParts : ByteArray := prog_6_method_3_code
def yX4_readParts : MethodName := ⟨RX4, "readParts", "(LVariantBoard$Line;)I"⟩
abbrev cX4_addPart : ByteArray := prog_6_method_4_code
def yX4_addPart : MethodName := ⟨RX4, "addPart", "(II)V"⟩
abbrev cX4_sameSigns : ByteArray := prog_6_method_5_code
def yX4_sameSigns : MethodName := ⟨RX4, "sameSigns", "(LVariantBoard$Line;Ljava/lang/String;)I"⟩
abbrev cX4_replace : ByteArray := prog_6_method_6_code
def yX4_replace : MethodName := ⟨RX4, "replace", "(LVariantBoard$Line;Ljava/lang/String;)V"⟩
abbrev cX4_wordOf : ByteArray := prog_6_method_7_code
def yX4_wordOf : MethodName := ⟨RX4, "wordOf", "(I)Ljava/lang/String;"⟩
abbrev cX4_meaningOf : ByteArray := prog_6_method_8_code
def yX4_meaningOf : MethodName := ⟨RX4, "meaningOf", "(I)Ljava/lang/String;"⟩
def RX5 : String := "VariantBoard$Play"
def TX5 : u_T := fun k => match k with
  | _ => ("VariantBoard$Play", "laws", "LVariantBoard$Laws;", true)
def tyX5 : Nat → FieldType := fun k => match k with
  | _ => .object "VariantBoard$Laws"
abbrev wsX50 : List Cond := u_ws RX5 TX5 1
theorem nmX5 : ∀ a, a < 1 → ∀ b, b < 1 → a ≠ b → (TX5 a).2.1 ≠ (TX5 b).2.1 := by decide +kernel
theorem tyX5_ok : ∀ k, k < 1 → parseFieldDescriptor (TX5 k).2.2.1 = some (tyX5 k) := by decide +kernel
abbrev cX5_init : ByteArray := prog_7_method_1_code
def yX5_init : MethodName := ⟨RX5, "<init>", "(LVariantBoard$Laws;)V"⟩
abbrev cX5_targets : ByteArray := prog_7_method_2_code
def yX5_targets : MethodName := ⟨RX5, "targets", "(LVariantBoard$Position;I)J"⟩
abbrev cX5_ends : ByteArray := prog_7_method_3_code
def yX5_ends : MethodName := ⟨RX5, "ends", "(LVariantBoard$Position;IJJ)J"⟩
abbrev cX5_way : ByteArray := prog_7_method_4_code
def yX5_way : MethodName := ⟨RX5, "way", "(LVariantBoard$Position;IIIIII)J"⟩
abbrev cX5_attackedBy : ByteArray := prog_7_method_5_code
def yX5_attackedBy : MethodName := ⟨RX5, "attackedBy", "(LVariantBoard$Position;I)J"⟩
abbrev cX5_menAttacking : ByteArray := prog_7_method_6_code
def yX5_menAttacking : MethodName := ⟨RX5, "menAttacking", "(LVariantBoard$Position;IJ)J"⟩
abbrev cX5_royalMen : ByteArray := prog_7_method_7_code
def yX5_royalMen : MethodName := ⟨RX5, "royalMen", "(LVariantBoard$Position;I)J"⟩
abbrev cX5_isSafe : ByteArray := prog_7_method_8_code
def yX5_isSafe : MethodName := ⟨RX5, "isSafe", "(LVariantBoard$Position;I)Z"⟩
abbrev cX5_lowestChecker : ByteArray := prog_7_method_9_code
def yX5_lowestChecker : MethodName := ⟨RX5, "lowestChecker", "(LVariantBoard$Position;I)I"⟩
abbrev cX5_goer : ByteArray := prog_7_method_10_code
def yX5_goer : MethodName := ⟨RX5, "goer", "(LVariantBoard$Position;I)I"⟩
abbrev cX5_arrival : ByteArray := prog_7_method_11_code
def yX5_arrival : MethodName := ⟨RX5, "arrival", "(LVariantBoard$Position;I)I"⟩
abbrev cX5_promotes : ByteArray := prog_7_method_12_code
def yX5_promotes : MethodName := ⟨RX5, "promotes", "(LVariantBoard$Position;I)Z"⟩
abbrev cX5_captured : ByteArray := prog_7_method_13_code
def yX5_captured : MethodName := ⟨RX5, "captured", "(LVariantBoard$Position;I)I"⟩
abbrev cX5_apply : ByteArray := prog_7_method_14_code
def yX5_apply : MethodName := ⟨RX5, "apply", "(LVariantBoard$Position;I)I"⟩
abbrev cX5_retract : ByteArray := prog_7_method_15_code
def yX5_retract : MethodName := ⟨RX5, "retract", "(LVariantBoard$Position;II)V"⟩
abbrev cX5_moveTwo : ByteArray := prog_7_method_16_code
def yX5_moveTwo : MethodName := ⟨RX5, "moveTwo", "(LVariantBoard$Position;III)V"⟩
abbrev cX5_rightsTouched : ByteArray := prog_7_method_17_code
def yX5_rightsTouched : MethodName := ⟨RX5, "rightsTouched", "(I)I"⟩
abbrev cX5_listLegal : ByteArray := prog_7_method_18_code
def yX5_listLegal : MethodName := ⟨RX5, "listLegal", "(LVariantBoard$Position;LVariantBoard$MoveList;)V"⟩
abbrev cX5_listCandidates : ByteArray := prog_7_method_19_code
def yX5_listCandidates : MethodName := ⟨RX5, "listCandidates", "(LVariantBoard$Position;LVariantBoard$MoveList;)V"⟩
abbrev cX5_addTargets : ByteArray := prog_7_method_20_code
def yX5_addTargets : MethodName := ⟨RX5, "addTargets", "(LVariantBoard$Position;ILVariantBoard$MoveList;)V"⟩
abbrev cX5_addDrops : ByteArray := prog_7_method_21_code
def yX5_addDrops : MethodName := ⟨RX5, "addDrops", "(LVariantBoard$Position;ILVariantBoard$MoveList;)V"⟩
abbrev cX5_isPossible : ByteArray := prog_7_method_22_code
def yX5_isPossible : MethodName := ⟨RX5, "isPossible", "(LVariantBoard$Position;I)Z"⟩
abbrev cX5_span : ByteArray := prog_7_method_23_code
def yX5_span : MethodName := ⟨RX5, "span", "(II)J"⟩
def RX6 : String := "VariantBoard$Position"
def TX6 : u_T := fun k => match k with
  | 0 => ("VariantBoard$Position", "men", "[I", true)
  | 1 => ("VariantBoard$Position", "hands", "[I", true)
  | 2 => ("VariantBoard$Position", "columns", "I", false)
  | 3 => ("VariantBoard$Position", "rows", "I", false)
  | 4 => ("VariantBoard$Position", "turn", "I", false)
  | 5 => ("VariantBoard$Position", "rights", "I", false)
  | 6 => ("VariantBoard$Position", "white", "J", false)
  | _ => ("VariantBoard$Position", "black", "J", false)
def tyX6 : Nat → FieldType := fun k => match k with
  | 0 => .array .int
  | 1 => .array .int
  | 2 => .int
  | 3 => .int
  | 4 => .int
  | 5 => .int
  | 6 => .long
  | _ => .long
abbrev wsX60 : List Cond := u_ws RX6 TX6 8
theorem nmX6 : ∀ a, a < 8 → ∀ b, b < 8 → a ≠ b → (TX6 a).2.1 ≠ (TX6 b).2.1 := by decide +kernel
theorem tyX6_ok : ∀ k, k < 8 → parseFieldDescriptor (TX6 k).2.2.1 = some (tyX6 k) := by decide +kernel
abbrev cX6_init : ByteArray := prog_8_method_1_code
def yX6_init : MethodName := ⟨RX6, "<init>", "()V"⟩
abbrev cX6_copyFrom : ByteArray := prog_8_method_2_code
def yX6_copyFrom : MethodName := ⟨RX6, "copyFrom", "(LVariantBoard$Position;)V"⟩
abbrev cX6_empty : ByteArray := prog_8_method_3_code
def yX6_empty : MethodName := ⟨RX6, "empty", "(II)V"⟩
abbrev cX6_squares : ByteArray := prog_8_method_4_code
def yX6_squares : MethodName := ⟨RX6, "squares", "()I"⟩
abbrev cX6_columnOf : ByteArray := prog_8_method_5_code
def yX6_columnOf : MethodName := ⟨RX6, "columnOf", "(I)I"⟩
abbrev cX6_rowOf : ByteArray := prog_8_method_6_code
def yX6_rowOf : MethodName := ⟨RX6, "rowOf", "(I)I"⟩
abbrev cX6_isFarRow : ByteArray := prog_8_method_7_code
def yX6_isFarRow : MethodName := ⟨RX6, "isFarRow", "(II)Z"⟩
abbrev cX6_manOn : ByteArray := prog_8_method_8_code
def yX6_manOn : MethodName := ⟨RX6, "manOn", "(I)I"⟩
abbrev cX6_put : ByteArray := prog_8_method_9_code
def yX6_put : MethodName := ⟨RX6, "put", "(II)V"⟩
abbrev cX6_menOf : ByteArray := prog_8_method_10_code
def yX6_menOf : MethodName := ⟨RX6, "menOf", "(I)J"⟩
abbrev cX6_menOnBoard : ByteArray := prog_8_method_11_code
def yX6_menOnBoard : MethodName := ⟨RX6, "menOnBoard", "()I"⟩
abbrev cX6_menOfType : ByteArray := prog_8_method_12_code
def yX6_menOfType : MethodName := ⟨RX6, "menOfType", "(I)I"⟩
abbrev cX6_inHand : ByteArray := prog_8_method_13_code
def yX6_inHand : MethodName := ⟨RX6, "inHand", "(II)I"⟩
abbrev cX6_addToHand : ByteArray := prog_8_method_14_code
def yX6_addToHand : MethodName := ⟨RX6, "addToHand", "(III)V"⟩
abbrev cX6_digestNow : ByteArray := prog_8_method_15_code
def yX6_digestNow : MethodName := ⟨RX6, "digestNow", "()I"⟩
def RX7 : String := "VariantBoard$Snapshot"
def TX7 : u_T := fun k => match k with
  | 0 => ("VariantBoard$Snapshot", "laws", "LVariantBoard$Laws;", true)
  | 1 => ("VariantBoard$Snapshot", "position", "LVariantBoard$Position;", true)
  | 2 => ("VariantBoard$Snapshot", "trail", "LVariantBoard$Trail;", true)
  | _ => ("VariantBoard$Snapshot", "taken", "Z", false)
def tyX7 : Nat → FieldType := fun k => match k with
  | 0 => .object "VariantBoard$Laws"
  | 1 => .object "VariantBoard$Position"
  | 2 => .object "VariantBoard$Trail"
  | _ => .boolean
abbrev wsX70 : List Cond := u_ws RX7 TX7 4
theorem nmX7 : ∀ a, a < 4 → ∀ b, b < 4 → a ≠ b → (TX7 a).2.1 ≠ (TX7 b).2.1 := by decide +kernel
theorem tyX7_ok : ∀ k, k < 4 → parseFieldDescriptor (TX7 k).2.2.1 = some (tyX7 k) := by decide +kernel
abbrev cX7_init : ByteArray := prog_9_method_1_code
def yX7_init : MethodName := ⟨RX7, "<init>", "()V"⟩
def RX8 : String := "VariantBoard$Trail"
def TX8 : u_T := fun k => match k with
  | 0 => ("VariantBoard$Trail", "moves", "[I", true)
  | 1 => ("VariantBoard$Trail", "undos", "[I", true)
  | 2 => ("VariantBoard$Trail", "digests", "[I", true)
  | _ => ("VariantBoard$Trail", "made", "I", false)
def tyX8 : Nat → FieldType := fun k => match k with
  | 0 => .array .int
  | 1 => .array .int
  | 2 => .array .int
  | _ => .int
abbrev wsX80 : List Cond := u_ws RX8 TX8 4
theorem nmX8 : ∀ a, a < 4 → ∀ b, b < 4 → a ≠ b → (TX8 a).2.1 ≠ (TX8 b).2.1 := by decide +kernel
theorem tyX8_ok : ∀ k, k < 4 → parseFieldDescriptor (TX8 k).2.2.1 = some (tyX8 k) := by decide +kernel
abbrev cX8_init : ByteArray := prog_10_method_1_code
def yX8_init : MethodName := ⟨RX8, "<init>", "()V"⟩
abbrev cX8_copyFrom : ByteArray := prog_10_method_2_code
def yX8_copyFrom : MethodName := ⟨RX8, "copyFrom", "(LVariantBoard$Trail;)V"⟩
abbrev cX8_begin : ByteArray := prog_10_method_3_code
def yX8_begin : MethodName := ⟨RX8, "begin", "(I)V"⟩
abbrev cX8_add : ByteArray := prog_10_method_4_code
def yX8_add : MethodName := ⟨RX8, "add", "(III)V"⟩
abbrev cX8_occurrences : ByteArray := prog_10_method_5_code
def yX8_occurrences : MethodName := ⟨RX8, "occurrences", "()I"⟩
def RX9 : String := "VariantBoard"
def TX9 : u_T := fun k => match k with
  | 0 => ("VariantBoard", "tape", "LVariantBoard$Line;", true)
  | 1 => ("VariantBoard", "line", "LVariantBoard$Line;", true)
  | 2 => ("VariantBoard", "laws", "LVariantBoard$Laws;", true)
  | 3 => ("VariantBoard", "play", "LVariantBoard$Play;", true)
  | 4 => ("VariantBoard", "reader", "LVariantBoard$PartReader;", true)
  | 5 => ("VariantBoard", "position", "LVariantBoard$Position;", true)
  | 6 => ("VariantBoard", "spare", "LVariantBoard$Position;", true)
  | 7 => ("VariantBoard", "trail", "LVariantBoard$Trail;", true)
  | 8 => ("VariantBoard", "legal", "LVariantBoard$MoveList;", true)
  | 9 => ("VariantBoard", "counter", "LVariantBoard$Counter;", true)
  | 10 => ("VariantBoard", "snapshot", "LVariantBoard$Snapshot;", true)
  | _ => ("VariantBoard", "listed", "Z", false)
def tyX9 : Nat → FieldType := fun k => match k with
  | 0 => .object "VariantBoard$Line"
  | 1 => .object "VariantBoard$Line"
  | 2 => .object "VariantBoard$Laws"
  | 3 => .object "VariantBoard$Play"
  | 4 => .object "VariantBoard$PartReader"
  | 5 => .object "VariantBoard$Position"
  | 6 => .object "VariantBoard$Position"
  | 7 => .object "VariantBoard$Trail"
  | 8 => .object "VariantBoard$MoveList"
  | 9 => .object "VariantBoard$Counter"
  | 10 => .object "VariantBoard$Snapshot"
  | _ => .boolean
abbrev wsX90 : List Cond := u_ws RX9 TX9 12
theorem nmX9 : ∀ a, a < 12 → ∀ b, b < 12 → a ≠ b → (TX9 a).2.1 ≠ (TX9 b).2.1 := by decide +kernel
theorem tyX9_ok : ∀ k, k < 12 → parseFieldDescriptor (TX9 k).2.2.1 = some (tyX9 k) := by decide +kernel
abbrev cX9_init : ByteArray := prog_1_method_1_code
def yX9_init : MethodName := ⟨RX9, "<init>", "()V"⟩
abbrev cX9_feed : ByteArray := prog_1_method_2_code
def yX9_feed : MethodName := ⟨RX9, "feed", "(I)I"⟩
abbrev cX9_size : ByteArray := prog_1_method_3_code
def yX9_size : MethodName := ⟨RX9, "size", "(II)I"⟩
abbrev cX9_define : ByteArray := prog_1_method_4_code
def yX9_define : MethodName := ⟨RX9, "define", "(I)I"⟩
abbrev cX9_type : ByteArray := prog_1_method_5_code
def yX9_type : MethodName := ⟨RX9, "type", "(III)I"⟩
abbrev cX9_rule : ByteArray := prog_1_method_6_code
def yX9_rule : MethodName := ⟨RX9, "rule", "(II)I"⟩
abbrev cX9_setup : ByteArray := prog_1_method_7_code
def yX9_setup : MethodName := ⟨RX9, "setup", "()I"⟩
abbrev cX9_side : ByteArray := prog_1_method_8_code
def yX9_side : MethodName := ⟨RX9, "side", "(I)I"⟩
abbrev cX9_hand : ByteArray := prog_1_method_9_code
def yX9_hand : MethodName := ⟨RX9, "hand", "(III)I"⟩
abbrev cX9_castle : ByteArray := prog_1_method_10_code
def yX9_castle : MethodName := ⟨RX9, "castle", "(IIIIII)I"⟩
abbrev cX9_at : ByteArray := prog_1_method_11_code
def yX9_at : MethodName := ⟨RX9, "at", "(I)I"⟩
abbrev cX9_moves : ByteArray := prog_1_method_12_code
def yX9_moves : MethodName := ⟨RX9, "moves", "(I)I"⟩
abbrev cX9_move : ByteArray := prog_1_method_13_code
def yX9_move : MethodName := ⟨RX9, "move", "(II)I"⟩
abbrev cX9_proof : ByteArray := prog_1_method_14_code
def yX9_proof : MethodName := ⟨RX9, "proof", "(II)I"⟩
abbrev cX9_make : ByteArray := prog_1_method_15_code
def yX9_make : MethodName := ⟨RX9, "make", "(I)I"⟩
abbrev cX9_back : ByteArray := prog_1_method_16_code
def yX9_back : MethodName := ⟨RX9, "back", "()I"⟩
abbrev cX9_attackers : ByteArray := prog_1_method_17_code
def yX9_attackers : MethodName := ⟨RX9, "attackers", "(II)J"⟩
abbrev cX9_attacked : ByteArray := prog_1_method_18_code
def yX9_attacked : MethodName := ⟨RX9, "attacked", "(I)J"⟩
abbrev cX9_status : ByteArray := prog_1_method_19_code
def yX9_status : MethodName := ⟨RX9, "status", "()I"⟩
abbrev cX9_sequences : ByteArray := prog_1_method_20_code
def yX9_sequences : MethodName := ⟨RX9, "sequences", "(II)I"⟩
abbrev cX9_text : ByteArray := prog_1_method_21_code
def yX9_text : MethodName := ⟨RX9, "text", "(I)I"⟩
abbrev cX9_told : ByteArray := prog_1_method_22_code
def yX9_told : MethodName := ⟨RX9, "told", "(II)I"⟩
abbrev cX9_property : ByteArray := prog_1_method_23_code
def yX9_property : MethodName := ⟨RX9, "property", "(II)I"⟩
abbrev cX9_digest : ByteArray := prog_1_method_24_code
def yX9_digest : MethodName := ⟨RX9, "digest", "()I"⟩
abbrev cX9_image : ByteArray := prog_1_method_25_code
def yX9_image : MethodName := ⟨RX9, "image", "()I"⟩
abbrev cX9_undo : ByteArray := prog_1_method_26_code
def yX9_undo : MethodName := ⟨RX9, "undo", "()I"⟩
abbrev cX9_count : ByteArray := prog_1_method_27_code
def yX9_count : MethodName := ⟨RX9, "count", "(I)I"⟩
abbrev cX9_begin : ByteArray := prog_1_method_28_code
def yX9_begin : MethodName := ⟨RX9, "begin", "()V"⟩
abbrev cX9_isSquare : ByteArray := prog_1_method_29_code
def yX9_isSquare : MethodName := ⟨RX9, "isSquare", "(I)Z"⟩
abbrev cX9_listLegal : ByteArray := prog_1_method_30_code
def yX9_listLegal : MethodName := ⟨RX9, "listLegal", "()V"⟩
abbrev cX9_isOfKind : ByteArray := prog_1_method_31_code
def yX9_isOfKind : MethodName := ⟨RX9, "isOfKind", "(II)Z"⟩
abbrev cX9_fromSquare : ByteArray := prog_1_method_32_code
def yX9_fromSquare : MethodName := ⟨RX9, "fromSquare", "(I)I"⟩
abbrev cX9_toSquare : ByteArray := prog_1_method_33_code
def yX9_toSquare : MethodName := ⟨RX9, "toSquare", "(I)I"⟩
abbrev cX9_capturedType : ByteArray := prog_1_method_34_code
def yX9_capturedType : MethodName := ⟨RX9, "capturedType", "(I)I"⟩
abbrev cX9_givesCheck : ByteArray := prog_1_method_35_code
def yX9_givesCheck : MethodName := ⟨RX9, "givesCheck", "(I)Z"⟩
abbrev cX9_digestAfter : ByteArray := prog_1_method_36_code
def yX9_digestAfter : MethodName := ⟨RX9, "digestAfter", "(I)I"⟩
abbrev cX9_mostMovesAlone : ByteArray := prog_1_method_37_code
def yX9_mostMovesAlone : MethodName := ⟨RX9, "mostMovesAlone", "(I)I"⟩
abbrev cX9_readPosition : ByteArray := prog_1_method_38_code
def yX9_readPosition : MethodName := ⟨RX9, "readPosition", "(LVariantBoard$Position;)I"⟩
abbrev cX9_writeRow : ByteArray := prog_1_method_39_code
def yX9_writeRow : MethodName := ⟨RX9, "writeRow", "(I)V"⟩
abbrev cX9_writeEmpty : ByteArray := prog_1_method_40_code
def yX9_writeEmpty : MethodName := ⟨RX9, "writeEmpty", "(I)V"⟩
abbrev cX9_writeMove : ByteArray := prog_1_method_41_code
def yX9_writeMove : MethodName := ⟨RX9, "writeMove", "(I)V"⟩
abbrev cX9_writeSquare : ByteArray := prog_1_method_42_code
def yX9_writeSquare : MethodName := ⟨RX9, "writeSquare", "(I)V"⟩
abbrev cX9_isLength : ByteArray := prog_1_method_43_code
def yX9_isLength : MethodName := ⟨RX9, "isLength", "(I)Z"⟩
abbrev cX9_isType : ByteArray := prog_1_method_44_code
def yX9_isType : MethodName := ⟨RX9, "isType", "(I)Z"⟩
abbrev cX9_isBit : ByteArray := prog_1_method_45_code
def yX9_isBit : MethodName := ⟨RX9, "isBit", "(I)Z"⟩
abbrev cX9_has : ByteArray := prog_1_method_46_code
def yX9_has : MethodName := ⟨RX9, "has", "(JI)Z"⟩
abbrev cX9_manOf : ByteArray := prog_1_method_47_code
def yX9_manOf : MethodName := ⟨RX9, "manOf", "(II)I"⟩
abbrev cX9_typeOf : ByteArray := prog_1_method_48_code
def yX9_typeOf : MethodName := ⟨RX9, "typeOf", "(I)I"⟩
abbrev cX9_sideOf : ByteArray := prog_1_method_49_code
def yX9_sideOf : MethodName := ⟨RX9, "sideOf", "(I)I"⟩
abbrev cX9_letterOf : ByteArray := prog_1_method_50_code
def yX9_letterOf : MethodName := ⟨RX9, "letterOf", "(I)I"⟩
abbrev cX9_manOfLetter : ByteArray := prog_1_method_51_code
def yX9_manOfLetter : MethodName := ⟨RX9, "manOfLetter", "(I)I"⟩
abbrev cX9_coded : ByteArray := prog_1_method_52_code
def yX9_coded : MethodName := ⟨RX9, "coded", "(III)I"⟩
abbrev cX9_kindOf : ByteArray := prog_1_method_53_code
def yX9_kindOf : MethodName := ⟨RX9, "kindOf", "(I)I"⟩
abbrev cX9_firstOf : ByteArray := prog_1_method_54_code
def yX9_firstOf : MethodName := ⟨RX9, "firstOf", "(I)I"⟩
abbrev cX9_secondOf : ByteArray := prog_1_method_55_code
def yX9_secondOf : MethodName := ⟨RX9, "secondOf", "(I)I"⟩
abbrev cX9_cell : ByteArray := prog_1_method_56_code
def yX9_cell : MethodName := ⟨RX9, "cell", "([II)I"⟩
abbrev cX9_setCell : ByteArray := prog_1_method_57_code
def yX9_setCell : MethodName := ⟨RX9, "setCell", "([III)V"⟩
abbrev cX9_copy : ByteArray := prog_1_method_58_code
def yX9_copy : MethodName := ⟨RX9, "copy", "([I[I)V"⟩
abbrev cX9_fill : ByteArray := prog_1_method_59_code
def yX9_fill : MethodName := ⟨RX9, "fill", "([II)V"⟩
def RX10 : String := "VariantBoardModel"
def TX10 : u_T := fun k => match k with
  | 0 => ("VariantBoardModel", "now", "[I", true)
  | 1 => ("VariantBoardModel", "saved", "[I", true)
  | 2 => ("VariantBoardModel", "isSaved", "Z", false)
  | 3 => ("VariantBoardModel", "tape", "[I", true)
  | 4 => ("VariantBoardModel", "length", "I", false)
  | 5 => ("VariantBoardModel", "at", "I", false)
  | 6 => ("VariantBoardModel", "read", "[I", true)
  | 7 => ("VariantBoardModel", "kinds", "[I", true)
  | 8 => ("VariantBoardModel", "froms", "[I", true)
  | 9 => ("VariantBoardModel", "tos", "[I", true)
  | 10 => ("VariantBoardModel", "whats", "[I", true)
  | 11 => ("VariantBoardModel", "many", "[I", true)
  | 12 => ("VariantBoardModel", "behind", "[I", true)
  | 13 => ("VariantBoardModel", "isListed", "Z", false)
  | 14 => ("VariantBoardModel", "sequenceKnown", "[I", true)
  | 15 => ("VariantBoardModel", "columnsOf", "[I", true)
  | 16 => ("VariantBoardModel", "rowsOf", "[I", true)
  | 17 => ("VariantBoardModel", "directions", "I", false)
  | _ => ("VariantBoardModel", "written", "[I", true)
def tyX10 : Nat → FieldType := fun k => match k with
  | 0 => .array .int
  | 1 => .array .int
  | 2 => .boolean
  | 3 => .array .int
  | 4 => .int
  | 5 => .int
  | 6 => .array .int
  | 7 => .array .int
  | 8 => .array .int
  | 9 => .array .int
  | 10 => .array .int
  | 11 => .array .int
  | 12 => .array .int
  | 13 => .boolean
  | 14 => .array .int
  | 15 => .array .int
  | 16 => .array .int
  | 17 => .int
  | _ => .array .int
abbrev wsX100 : List Cond := u_ws RX10 TX10 19
theorem nmX10 : ∀ a, a < 19 → ∀ b, b < 19 → a ≠ b → (TX10 a).2.1 ≠ (TX10 b).2.1 := by decide +kernel
theorem tyX10_ok : ∀ k, k < 19 → parseFieldDescriptor (TX10 k).2.2.1 = some (tyX10 k) := by decide +kernel
abbrev cX10_init : ByteArray := prog_12_method_1_code
def yX10_init : MethodName := ⟨RX10, "<init>", "()V"⟩
abbrev cX10_in : ByteArray := prog_12_method_2_code
def yX10_in : MethodName := ⟨RX10, "in", "(III)Z"⟩
abbrev cX10_typeAt : ByteArray := prog_12_method_3_code
def yX10_typeAt : MethodName := ⟨RX10, "typeAt", "(I)I"⟩
abbrev cX10_castleAt : ByteArray := prog_12_method_4_code
def yX10_castleAt : MethodName := ⟨RX10, "castleAt", "(I)I"⟩
abbrev cX10_isType : ByteArray := prog_12_method_5_code
def yX10_isType : MethodName := ⟨RX10, "isType", "(I)Z"⟩
abbrev cX10_squares : ByteArray := prog_12_method_6_code
def yX10_squares : MethodName := ⟨RX10, "squares", "()I"⟩
abbrev cX10_isSquare : ByteArray := prog_12_method_7_code
def yX10_isSquare : MethodName := ⟨RX10, "isSquare", "(I)Z"⟩
abbrev cX10_man : ByteArray := prog_12_method_8_code
def yX10_man : MethodName := ⟨RX10, "man", "(I)I"⟩
abbrev cX10_isOf : ByteArray := prog_12_method_9_code
def yX10_isOf : MethodName := ⟨RX10, "isOf", "(II)Z"⟩
abbrev cX10_digestOf : ByteArray := prog_12_method_10_code
def yX10_digestOf : MethodName := ⟨RX10, "digestOf", "()I"⟩
abbrev cX10_stirs : ByteArray := prog_12_method_11_code
def yX10_stirs : MethodName := ⟨RX10, "stirs", "()V"⟩
abbrev cX10_begins : ByteArray := prog_12_method_12_code
def yX10_begins : MethodName := ⟨RX10, "begins", "()V"⟩
abbrev cX10_sets : ByteArray := prog_12_method_13_code
def yX10_sets : MethodName := ⟨RX10, "sets", "(II)I"⟩
abbrev cX10_feed : ByteArray := prog_12_method_14_code
def yX10_feed : MethodName := ⟨RX10, "feed", "(I)I"⟩
abbrev cX10_size : ByteArray := prog_12_method_15_code
def yX10_size : MethodName := ⟨RX10, "size", "(II)I"⟩
abbrev cX10_like : ByteArray := prog_12_method_16_code
def yX10_like : MethodName := ⟨RX10, "like", "(I)I"⟩
abbrev cX10_word : ByteArray := prog_12_method_17_code
def yX10_word : MethodName := ⟨RX10, "word", "()I"⟩
abbrev cX10_parts : ByteArray := prog_12_method_18_code
def yX10_parts : MethodName := ⟨RX10, "parts", "([II)I"⟩
abbrev cX10_define : ByteArray := prog_12_method_19_code
def yX10_define : MethodName := ⟨RX10, "define", "(I)I"⟩
abbrev cX10_type : ByteArray := prog_12_method_20_code
def yX10_type : MethodName := ⟨RX10, "type", "(III)I"⟩
abbrev cX10_rule : ByteArray := prog_12_method_21_code
def yX10_rule : MethodName := ⟨RX10, "rule", "(II)I"⟩
abbrev cX10_isDefined : ByteArray := prog_12_method_22_code
def yX10_isDefined : MethodName := ⟨RX10, "isDefined", "(I)Z"⟩
abbrev cX10_letter : ByteArray := prog_12_method_23_code
def yX10_letter : MethodName := ⟨RX10, "letter", "(I)I"⟩
abbrev cX10_position : ByteArray := prog_12_method_24_code
def yX10_position : MethodName := ⟨RX10, "position", "([I)I"⟩
abbrev cX10_men : ByteArray := prog_12_method_25_code
def yX10_men : MethodName := ⟨RX10, "men", "()I"⟩
abbrev cX10_setup : ByteArray := prog_12_method_26_code
def yX10_setup : MethodName := ⟨RX10, "setup", "()I"⟩
abbrev cX10_side : ByteArray := prog_12_method_27_code
def yX10_side : MethodName := ⟨RX10, "side", "(I)I"⟩
abbrev cX10_hand : ByteArray := prog_12_method_28_code
def yX10_hand : MethodName := ⟨RX10, "hand", "(III)I"⟩
abbrev cX10_castles : ByteArray := prog_12_method_29_code
def yX10_castles : MethodName := ⟨RX10, "castles", "(Z)I"⟩
abbrev cX10_row : ByteArray := prog_12_method_30_code
def yX10_row : MethodName := ⟨RX10, "row", "(I)I"⟩
abbrev cX10_castle : ByteArray := prog_12_method_31_code
def yX10_castle : MethodName := ⟨RX10, "castle", "(IIIIII)I"⟩
abbrev cX10_at : ByteArray := prog_12_method_32_code
def yX10_at : MethodName := ⟨RX10, "at", "(I)I"⟩
abbrev cX10_direction : ByteArray := prog_12_method_33_code
def yX10_direction : MethodName := ⟨RX10, "direction", "(IIII)V"⟩
abbrev cX10_steps : ByteArray := prog_12_method_34_code
def yX10_steps : MethodName := ⟨RX10, "steps", "(IIII)V"⟩
abbrev cX10_directions : ByteArray := prog_12_method_35_code
def yX10_directions : MethodName := ⟨RX10, "directions", "(II)V"⟩
abbrev cX10_isEmpty : ByteArray := prog_12_method_36_code
def yX10_isEmpty : MethodName := ⟨RX10, "isEmpty", "(I)Z"⟩
abbrev cX10_reaches : ByteArray := prog_12_method_37_code
def yX10_reaches : MethodName := ⟨RX10, "reaches", "(IIIZ)J"⟩
abbrev cX10_all : ByteArray := prog_12_method_38_code
def yX10_all : MethodName := ⟨RX10, "all", "(IIIZ)J"⟩
abbrev cX10_attackedBy : ByteArray := prog_12_method_39_code
def yX10_attackedBy : MethodName := ⟨RX10, "attackedBy", "(I)J"⟩
abbrev cX10_royals : ByteArray := prog_12_method_40_code
def yX10_royals : MethodName := ⟨RX10, "royals", "(I)J"⟩
abbrev cX10_isSafe : ByteArray := prog_12_method_41_code
def yX10_isSafe : MethodName := ⟨RX10, "isSafe", "(I)Z"⟩
abbrev cX10_has : ByteArray := prog_12_method_42_code
def yX10_has : MethodName := ⟨RX10, "has", "(JI)Z"⟩
abbrev cX10_isFar : ByteArray := prog_12_method_43_code
def yX10_isFar : MethodName := ⟨RX10, "isFar", "(II)Z"⟩
abbrev cX10_promotion : ByteArray := prog_12_method_44_code
def yX10_promotion : MethodName := ⟨RX10, "promotion", "(I)I"⟩
abbrev cX10_arrives : ByteArray := prog_12_method_45_code
def yX10_arrives : MethodName := ⟨RX10, "arrives", "(III)I"⟩
abbrev cX10_touches : ByteArray := prog_12_method_46_code
def yX10_touches : MethodName := ⟨RX10, "touches", "(I)V"⟩
abbrev cX10_plays : ByteArray := prog_12_method_47_code
def yX10_plays : MethodName := ⟨RX10, "plays", "(IIII)V"⟩
abbrev cX10_keeps : ByteArray := prog_12_method_48_code
def yX10_keeps : MethodName := ⟨RX10, "keeps", "(I)V"⟩
abbrev cX10_again : ByteArray := prog_12_method_49_code
def yX10_again : MethodName := ⟨RX10, "again", "(I)V"⟩
abbrev cX10_adds : ByteArray := prog_12_method_50_code
def yX10_adds : MethodName := ⟨RX10, "adds", "(IIIII)V"⟩
abbrev cX10_isClear : ByteArray := prog_12_method_51_code
def yX10_isClear : MethodName := ⟨RX10, "isClear", "(II)Z"⟩
abbrev cX10_canCastle : ByteArray := prog_12_method_52_code
def yX10_canCastle : MethodName := ⟨RX10, "canCastle", "(I)Z"⟩
abbrev cX10_lists : ByteArray := prog_12_method_53_code
def yX10_lists : MethodName := ⟨RX10, "lists", "(I)V"⟩
abbrev cX10_looks : ByteArray := prog_12_method_54_code
def yX10_looks : MethodName := ⟨RX10, "looks", "()V"⟩
abbrev cX10_captures : ByteArray := prog_12_method_55_code
def yX10_captures : MethodName := ⟨RX10, "captures", "(I)Z"⟩
abbrev cX10_promotes : ByteArray := prog_12_method_56_code
def yX10_promotes : MethodName := ⟨RX10, "promotes", "(I)Z"⟩
abbrev cX10_moves : ByteArray := prog_12_method_57_code
def yX10_moves : MethodName := ⟨RX10, "moves", "(I)I"⟩
abbrev cX10_ahead : ByteArray := prog_12_method_58_code
def yX10_ahead : MethodName := ⟨RX10, "ahead", "(IZ)I"⟩
abbrev cX10_typeOf : ByteArray := prog_12_method_59_code
def yX10_typeOf : MethodName := ⟨RX10, "typeOf", "(I)I"⟩
abbrev cX10_move : ByteArray := prog_12_method_60_code
def yX10_move : MethodName := ⟨RX10, "move", "(II)I"⟩
abbrev cX10_proof : ByteArray := prog_12_method_61_code
def yX10_proof : MethodName := ⟨RX10, "proof", "(II)I"⟩
abbrev cX10_occurrences : ByteArray := prog_12_method_62_code
def yX10_occurrences : MethodName := ⟨RX10, "occurrences", "()I"⟩
abbrev cX10_make : ByteArray := prog_12_method_63_code
def yX10_make : MethodName := ⟨RX10, "make", "(I)I"⟩
abbrev cX10_back : ByteArray := prog_12_method_64_code
def yX10_back : MethodName := ⟨RX10, "back", "()I"⟩
abbrev cX10_attackers : ByteArray := prog_12_method_65_code
def yX10_attackers : MethodName := ⟨RX10, "attackers", "(II)J"⟩
abbrev cX10_attacked : ByteArray := prog_12_method_66_code
def yX10_attacked : MethodName := ⟨RX10, "attacked", "(I)J"⟩
abbrev cX10_status : ByteArray := prog_12_method_67_code
def yX10_status : MethodName := ⟨RX10, "status", "()I"⟩
abbrev cX10_sequences : ByteArray := prog_12_method_68_code
def yX10_sequences : MethodName := ⟨RX10, "sequences", "(II)I"⟩
abbrev cX10_letterOf : ByteArray := prog_12_method_69_code
def yX10_letterOf : MethodName := ⟨RX10, "letterOf", "(I)I"⟩
abbrev cX10_writes : ByteArray := prog_12_method_70_code
def yX10_writes : MethodName := ⟨RX10, "writes", "()I"⟩
abbrev cX10_answers : ByteArray := prog_12_method_71_code
def yX10_answers : MethodName := ⟨RX10, "answers", "(II)I"⟩
abbrev cX10_text : ByteArray := prog_12_method_72_code
def yX10_text : MethodName := ⟨RX10, "text", "(I)I"⟩
abbrev cX10_square : ByteArray := prog_12_method_73_code
def yX10_square : MethodName := ⟨RX10, "square", "(II)I"⟩
abbrev cX10_told : ByteArray := prog_12_method_74_code
def yX10_told : MethodName := ⟨RX10, "told", "(II)I"⟩
abbrev cX10_freedom : ByteArray := prog_12_method_75_code
def yX10_freedom : MethodName := ⟨RX10, "freedom", "(I)I"⟩
abbrev cX10_property : ByteArray := prog_12_method_76_code
def yX10_property : MethodName := ⟨RX10, "property", "(II)I"⟩
abbrev cX10_digest : ByteArray := prog_12_method_77_code
def yX10_digest : MethodName := ⟨RX10, "digest", "()I"⟩
abbrev cX10_image : ByteArray := prog_12_method_78_code
def yX10_image : MethodName := ⟨RX10, "image", "()I"⟩
abbrev cX10_undo : ByteArray := prog_12_method_79_code
def yX10_undo : MethodName := ⟨RX10, "undo", "()I"⟩
abbrev cX10_count : ByteArray := prog_12_method_80_code
def yX10_count : MethodName := ⟨RX10, "count", "(I)I"⟩
def RJ11 : String := "java/lang/Character"
abbrev cJ11_isValidCodePoint_9a6ad : ByteArray := prog_13_method_11_code
def yJ11_isValidCodePoint_9a6ad : MethodName := ⟨RJ11, "isValidCodePoint", "(I)Z"⟩
abbrev cJ11_highSurrogate_5068e : ByteArray := prog_13_method_28_code
def yJ11_highSurrogate_5068e : MethodName := ⟨RJ11, "highSurrogate", "(I)C"⟩
abbrev cJ11_lowSurrogate_5068e : ByteArray := prog_13_method_29_code
def yJ11_lowSurrogate_5068e : MethodName := ⟨RJ11, "lowSurrogate", "(I)C"⟩
def RJ6 : String := "java/lang/Integer"
abbrev cJ6_bitCount_0f7a4 : ByteArray := prog_14_method_49_code
def yJ6_bitCount_0f7a4 : MethodName := ⟨RJ6, "bitCount", "(I)I"⟩
def RJ13 : String := "java/lang/Long"
abbrev cJ13_bitCount_95d88 : ByteArray := prog_15_method_50_code
def yJ13_bitCount_95d88 : MethodName := ⟨RJ13, "bitCount", "(J)I"⟩
def RJ9 : String := "java/lang/Math"
abbrev cJ9_max_7cf53 : ByteArray := prog_16_method_65_code
def yJ9_max_7cf53 : MethodName := ⟨RJ9, "max", "(II)I"⟩
abbrev cJ9_min_7cf53 : ByteArray := prog_16_method_69_code
def yJ9_min_7cf53 : MethodName := ⟨RJ9, "min", "(II)I"⟩
def RJ0 : String := "java/lang/String"
abbrev cJ0_length_8abf5 : ByteArray := prog_17_method_54_code
def yJ0_length_8abf5 : MethodName := ⟨RJ0, "length", "()I"⟩
abbrev cJ0_charAt_5068e : ByteArray := prog_17_method_56_code
def yJ0_charAt_5068e : MethodName := ⟨RJ0, "charAt", "(I)C"⟩
abbrev cJ0_indexOf_0f7a4 : ByteArray := prog_17_method_79_code
def yJ0_indexOf_0f7a4 : MethodName := ⟨RJ0, "indexOf", "(I)I"⟩
abbrev cJ0_indexOf_7cf53 : ByteArray := prog_17_method_80_code
def yJ0_indexOf_7cf53 : MethodName := ⟨RJ0, "indexOf", "(II)I"⟩
abbrev cJ0_coder_7d493 : ByteArray := prog_17_method_152_code
def yJ0_coder_7d493 : MethodName := ⟨RJ0, "coder", "()B"⟩
abbrev cJ0_isLatin1_aae02 : ByteArray := prog_17_method_154_code
def yJ0_isLatin1_aae02 : MethodName := ⟨RJ0, "isLatin1", "()Z"⟩
abbrev cJ0_checkIndex_df160 : ByteArray := prog_17_method_155_code
def yJ0_checkIndex_df160 : MethodName := ⟨RJ0, "checkIndex", "(II)V"⟩
abbrev cJ0_checkBoundsBeginEnd_23922 : ByteArray := prog_17_method_158_code
def yJ0_checkBoundsBeginEnd_23922 : MethodName := ⟨RJ0, "checkBoundsBeginEnd", "(III)V"⟩
def RJ1 : String := "java/lang/StringLatin1"
abbrev cJ1_charAt_3b067 : ByteArray := prog_18_method_2_code
def yJ1_charAt_3b067 : MethodName := ⟨RJ1, "charAt", "([BI)C"⟩
abbrev cJ1_canEncode_9a6ad : ByteArray := prog_18_method_4_code
def yJ1_canEncode_9a6ad : MethodName := ⟨RJ1, "canEncode", "(I)Z"⟩
abbrev cJ1_indexOf_4cfef : ByteArray := prog_18_method_22_code
def yJ1_indexOf_4cfef : MethodName := ⟨RJ1, "indexOf", "([BIII)I"⟩
abbrev cJ1_indexOfChar_4cfef : ByteArray := prog_18_method_23_code
def yJ1_indexOfChar_4cfef : MethodName := ⟨RJ1, "indexOfChar", "([BIII)I"⟩
def RJ2 : String := "java/lang/StringUTF16"
abbrev cJ2_getChar_3b067 : ByteArray := prog_19_method_5_code
def yJ2_getChar_3b067 : MethodName := ⟨RJ2, "getChar", "([BI)C"⟩
abbrev cJ2_length_9d52b : ByteArray := prog_19_method_6_code
def yJ2_length_9d52b : MethodName := ⟨RJ2, "length", "([B)I"⟩
abbrev cJ2_indexOf_4cfef : ByteArray := prog_19_method_40_code
def yJ2_indexOf_4cfef : MethodName := ⟨RJ2, "indexOf", "([BIII)I"⟩
abbrev cJ2_indexOfChar_4cfef : ByteArray := prog_19_method_47_code
def yJ2_indexOfChar_4cfef : MethodName := ⟨RJ2, "indexOfChar", "([BIII)I"⟩
abbrev cJ2_indexOfCharUnsafe_4cfef : ByteArray := prog_19_method_48_code
def yJ2_indexOfCharUnsafe_4cfef : MethodName := ⟨RJ2, "indexOfCharUnsafe", "([BIII)I"⟩
abbrev cJ2_indexOfSupplementary_4cfef : ByteArray := prog_19_method_49_code
def yJ2_indexOfSupplementary_4cfef : MethodName := ⟨RJ2, "indexOfSupplementary", "([BIII)I"⟩
abbrev cJ2_charAt_3b067 : ByteArray := prog_19_method_83_code
def yJ2_charAt_3b067 : MethodName := ⟨RJ2, "charAt", "([BI)C"⟩
abbrev cJ2_checkIndex_2214a : ByteArray := prog_19_method_91_code
def yJ2_checkIndex_2214a : MethodName := ⟨RJ2, "checkIndex", "(I[B)V"⟩
abbrev cJ2_checkBoundsBeginEnd_d044e : ByteArray := prog_19_method_93_code
def yJ2_checkBoundsBeginEnd_d044e : MethodName := ⟨RJ2, "checkBoundsBeginEnd", "(II[B)V"⟩
def RJ3 : String := "jdk/internal/util/Preconditions"
abbrev cJ3_checkIndex_8e157 : ByteArray := prog_20_method_11_code
def yJ3_checkIndex_8e157 : MethodName := ⟨RJ3, "checkIndex", "(IILjava/util/function/BiFunction;)I"⟩
abbrev cJ3_checkFromToIndex_8c36e : ByteArray := prog_20_method_12_code
def yJ3_checkFromToIndex_8c36e : MethodName := ⟨RJ3, "checkFromToIndex", "(IIILjava/util/function/BiFunction;)I"⟩
def RL : String := "VariantBoardLaw"
abbrev cL_law : ByteArray := code
def yL_law : MethodName := ⟨RL, "law", "([I)Z"⟩
abbrev vwCl : List vw_C := [(RX0, TX0, 5), (RX1, TX1, 11), (RX2, TX2, 2), (RX3, TX3, 2), (RX4, TX4, 4), (RX5, TX5, 1), (RX6, TX6, 8), (RX7, TX7, 4), (RX8, TX8, 4), (RX9, TX9, 12), (RX10, TX10, 19)]
