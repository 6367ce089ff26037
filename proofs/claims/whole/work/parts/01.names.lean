def lw_okq (q : MethodName × Nat) : Prop := (q.1.cls ≠ "java/lang/invoke/MethodHandle" ∧ q.1.cls ≠ "java/lang/invoke/VarHandle") ∧ Cond.instantiable q.1.cls q.2 ∈ tables_1 ∧ Cond.privateMethod q.1 ∈ tables_1 ∧ Cond.instanceMethod q.1 ∈ tables_1
theorem lw_p0 : lw_okq (⟨"ToldFacts", "deskAt", "(I)LToldFacts$Desk;"⟩, 6) := ⟨⟨by decide +kernel, by decide +kernel⟩, List.mem_of_getElem? (i := 10) (by decide +kernel), List.mem_of_getElem? (i := 122) (by decide +kernel), List.mem_of_getElem? (i := 123) (by decide +kernel)⟩
theorem lw_p1 : lw_okq (⟨"ToldFacts$FactSet", "clear", "()V"⟩, 1) := ⟨⟨by decide +kernel, by decide +kernel⟩, List.mem_of_getElem? (i := 56) (by decide +kernel), List.mem_of_getElem? (i := 130) (by decide +kernel), List.mem_of_getElem? (i := 131) (by decide +kernel)⟩
theorem lw_p2 : lw_okq (⟨"ToldFacts", "tellReplacing", "(LToldFacts$Desk;IJLToldFacts$FactSet;)I"⟩, 6) := ⟨⟨by decide +kernel, by decide +kernel⟩, List.mem_of_getElem? (i := 10) (by decide +kernel), List.mem_of_getElem? (i := 138) (by decide +kernel), List.mem_of_getElem? (i := 139) (by decide +kernel)⟩
theorem lw_p3 : lw_okq (⟨"ToldFacts$Desk", "nextNumber", "()I"⟩, 6) := ⟨⟨by decide +kernel, by decide +kernel⟩, List.mem_of_getElem? (i := 89) (by decide +kernel), List.mem_of_getElem? (i := 142) (by decide +kernel), List.mem_of_getElem? (i := 143) (by decide +kernel)⟩
theorem lw_p4 : lw_okq (⟨"ToldFacts$Desk", "nextTime", "()I"⟩, 6) := ⟨⟨by decide +kernel, by decide +kernel⟩, List.mem_of_getElem? (i := 89) (by decide +kernel), List.mem_of_getElem? (i := 146) (by decide +kernel), List.mem_of_getElem? (i := 147) (by decide +kernel)⟩
theorem lw_p5 : lw_okq (⟨"ToldFacts$Facts", "append", "(IIJILToldFacts$FactSet;)I"⟩, 8) := ⟨⟨by decide +kernel, by decide +kernel⟩, List.mem_of_getElem? (i := 20) (by decide +kernel), List.mem_of_getElem? (i := 150) (by decide +kernel), List.mem_of_getElem? (i := 151) (by decide +kernel)⟩
theorem lw_p6 : lw_okq (⟨"ToldFacts$FactSet", "has", "(I)Z"⟩, 1) := ⟨⟨by decide +kernel, by decide +kernel⟩, List.mem_of_getElem? (i := 56) (by decide +kernel), List.mem_of_getElem? (i := 154) (by decide +kernel), List.mem_of_getElem? (i := 155) (by decide +kernel)⟩
theorem lw_p7 : lw_okq (⟨"ToldFacts$Desk", "hear", "(I)V"⟩, 6) := ⟨⟨by decide +kernel, by decide +kernel⟩, List.mem_of_getElem? (i := 89) (by decide +kernel), List.mem_of_getElem? (i := 164) (by decide +kernel), List.mem_of_getElem? (i := 165) (by decide +kernel)⟩
theorem lw_p8 : lw_okq (⟨"ToldFacts$FactSet", "add", "(I)V"⟩, 1) := ⟨⟨by decide +kernel, by decide +kernel⟩, List.mem_of_getElem? (i := 56) (by decide +kernel), List.mem_of_getElem? (i := 168) (by decide +kernel), List.mem_of_getElem? (i := 169) (by decide +kernel)⟩
theorem lw_p9 : lw_okq (⟨"ToldFacts$Facts", "withNumber", "(I)I"⟩, 8) := ⟨⟨by decide +kernel, by decide +kernel⟩, List.mem_of_getElem? (i := 20) (by decide +kernel), List.mem_of_getElem? (i := 176) (by decide +kernel), List.mem_of_getElem? (i := 177) (by decide +kernel)⟩
theorem lw_p10 : lw_okq (⟨"ToldFacts$Facts", "standsAmong", "(LToldFacts$FactSet;I)Z"⟩, 8) := ⟨⟨by decide +kernel, by decide +kernel⟩, List.mem_of_getElem? (i := 20) (by decide +kernel), List.mem_of_getElem? (i := 180) (by decide +kernel), List.mem_of_getElem? (i := 181) (by decide +kernel)⟩
theorem lw_p11 : lw_okq (⟨"ToldFacts", "joined", "(II)LToldFacts$Desk;"⟩, 6) := ⟨⟨by decide +kernel, by decide +kernel⟩, List.mem_of_getElem? (i := 10) (by decide +kernel), List.mem_of_getElem? (i := 189) (by decide +kernel), List.mem_of_getElem? (i := 190) (by decide +kernel)⟩
theorem lw_p12 : lw_okq (⟨"ToldFacts$Desk", "learnFrom", "(LToldFacts$Desk;)V"⟩, 6) := ⟨⟨by decide +kernel, by decide +kernel⟩, List.mem_of_getElem? (i := 89) (by decide +kernel), List.mem_of_getElem? (i := 193) (by decide +kernel), List.mem_of_getElem? (i := 194) (by decide +kernel)⟩
theorem lw_p13 : lw_okq (⟨"ToldFacts$FactSet", "addAll", "(LToldFacts$FactSet;)V"⟩, 1) := ⟨⟨by decide +kernel, by decide +kernel⟩, List.mem_of_getElem? (i := 56) (by decide +kernel), List.mem_of_getElem? (i := 197) (by decide +kernel), List.mem_of_getElem? (i := 198) (by decide +kernel)⟩
theorem lw_p14 : lw_okq (⟨"ToldFacts$Facts", "countConflicts", "(LToldFacts$FactSet;)I"⟩, 8) := ⟨⟨by decide +kernel, by decide +kernel⟩, List.mem_of_getElem? (i := 20) (by decide +kernel), List.mem_of_getElem? (i := 204) (by decide +kernel), List.mem_of_getElem? (i := 205) (by decide +kernel)⟩
theorem lw_p15 : lw_okq (⟨"ToldFacts$Facts", "isFirstOfSpot", "(I)Z"⟩, 8) := ⟨⟨by decide +kernel, by decide +kernel⟩, List.mem_of_getElem? (i := 20) (by decide +kernel), List.mem_of_getElem? (i := 208) (by decide +kernel), List.mem_of_getElem? (i := 209) (by decide +kernel)⟩
def lw_privs_1 : List (MethodName × Nat) := [(⟨"ToldFacts", "deskAt", "(I)LToldFacts$Desk;"⟩, 6), (⟨"ToldFacts$FactSet", "clear", "()V"⟩, 1), (⟨"ToldFacts", "tellReplacing", "(LToldFacts$Desk;IJLToldFacts$FactSet;)I"⟩, 6), (⟨"ToldFacts$Desk", "nextNumber", "()I"⟩, 6), (⟨"ToldFacts$Desk", "nextTime", "()I"⟩, 6), (⟨"ToldFacts$Facts", "append", "(IIJILToldFacts$FactSet;)I"⟩, 8), (⟨"ToldFacts$FactSet", "has", "(I)Z"⟩, 1), (⟨"ToldFacts$Desk", "hear", "(I)V"⟩, 6), (⟨"ToldFacts$FactSet", "add", "(I)V"⟩, 1), (⟨"ToldFacts$Facts", "withNumber", "(I)I"⟩, 8), (⟨"ToldFacts$Facts", "standsAmong", "(LToldFacts$FactSet;I)Z"⟩, 8), (⟨"ToldFacts", "joined", "(II)LToldFacts$Desk;"⟩, 6), (⟨"ToldFacts$Desk", "learnFrom", "(LToldFacts$Desk;)V"⟩, 6), (⟨"ToldFacts$FactSet", "addAll", "(LToldFacts$FactSet;)V"⟩, 1), (⟨"ToldFacts$Facts", "countConflicts", "(LToldFacts$FactSet;)I"⟩, 8), (⟨"ToldFacts$Facts", "isFirstOfSpot", "(I)Z"⟩, 8)]
theorem lw_r1 : ∀ q ∈ lw_privs_1, lw_okq q := List.forall_mem_cons.mpr ⟨lw_p0, List.forall_mem_cons.mpr ⟨lw_p1, List.forall_mem_cons.mpr ⟨lw_p2, List.forall_mem_cons.mpr ⟨lw_p3, List.forall_mem_cons.mpr ⟨lw_p4, List.forall_mem_cons.mpr ⟨lw_p5, List.forall_mem_cons.mpr ⟨lw_p6, List.forall_mem_cons.mpr ⟨lw_p7, List.forall_mem_cons.mpr ⟨lw_p8, List.forall_mem_cons.mpr ⟨lw_p9, List.forall_mem_cons.mpr ⟨lw_p10, List.forall_mem_cons.mpr ⟨lw_p11, List.forall_mem_cons.mpr ⟨lw_p12, List.forall_mem_cons.mpr ⟨lw_p13, List.forall_mem_cons.mpr ⟨lw_p14, List.forall_mem_cons.mpr ⟨lw_p15, fun _ h => absurd h List.not_mem_nil⟩⟩⟩⟩⟩⟩⟩⟩⟩⟩⟩⟩⟩⟩⟩⟩
theorem lw_p16 : lw_okq (⟨"ToldFacts$Facts", "isConflictFrom", "(ILToldFacts$FactSet;)Z"⟩, 8) := ⟨⟨by decide +kernel, by decide +kernel⟩, List.mem_of_getElem? (i := 20) (by decide +kernel), List.mem_of_getElem? (i := 212) (by decide +kernel), List.mem_of_getElem? (i := 213) (by decide +kernel)⟩
theorem lw_p17 : lw_okq (⟨"ToldFacts$Facts", "pickToldBy", "(JLToldFacts$FactSet;LToldFacts$FactSet;)V"⟩, 8) := ⟨⟨by decide +kernel, by decide +kernel⟩, List.mem_of_getElem? (i := 20) (by decide +kernel), List.mem_of_getElem? (i := 222) (by decide +kernel), List.mem_of_getElem? (i := 223) (by decide +kernel)⟩
theorem lw_p18 : lw_okq (⟨"ToldFacts$Facts", "latestStanding", "(LToldFacts$FactSet;IIJ)I"⟩, 8) := ⟨⟨by decide +kernel, by decide +kernel⟩, List.mem_of_getElem? (i := 20) (by decide +kernel), List.mem_of_getElem? (i := 228) (by decide +kernel), List.mem_of_getElem? (i := 229) (by decide +kernel)⟩
theorem lw_p19 : lw_okq (⟨"ToldFacts$Facts", "isLater", "(II)Z"⟩, 8) := ⟨⟨by decide +kernel, by decide +kernel⟩, List.mem_of_getElem? (i := 20) (by decide +kernel), List.mem_of_getElem? (i := 236) (by decide +kernel), List.mem_of_getElem? (i := 237) (by decide +kernel)⟩
theorem lw_p20 : lw_okq (⟨"ToldFacts$Facts", "conflictSpot", "(LToldFacts$FactSet;II)I"⟩, 8) := ⟨⟨by decide +kernel, by decide +kernel⟩, List.mem_of_getElem? (i := 20) (by decide +kernel), List.mem_of_getElem? (i := 244) (by decide +kernel), List.mem_of_getElem? (i := 245) (by decide +kernel)⟩
theorem lw_p21 : lw_okq (⟨"ToldFacts$Facts", "pickStanding", "(LToldFacts$FactSet;ILToldFacts$FactSet;)V"⟩, 8) := ⟨⟨by decide +kernel, by decide +kernel⟩, List.mem_of_getElem? (i := 20) (by decide +kernel), List.mem_of_getElem? (i := 248) (by decide +kernel), List.mem_of_getElem? (i := 249) (by decide +kernel)⟩
theorem lw_p22 : lw_okq (⟨"ToldFacts$FactSet", "size", "()I"⟩, 1) := ⟨⟨by decide +kernel, by decide +kernel⟩, List.mem_of_getElem? (i := 56) (by decide +kernel), List.mem_of_getElem? (i := 259) (by decide +kernel), List.mem_of_getElem? (i := 260) (by decide +kernel)⟩
theorem lw_p23 : lw_okq (⟨"ToldFacts$Facts", "inOrder", "(LToldFacts$FactSet;I)I"⟩, 8) := ⟨⟨by decide +kernel, by decide +kernel⟩, List.mem_of_getElem? (i := 20) (by decide +kernel), List.mem_of_getElem? (i := 269) (by decide +kernel), List.mem_of_getElem? (i := 270) (by decide +kernel)⟩
theorem lw_p24 : lw_okq (⟨"ToldFacts", "numberOrNone", "(I)I"⟩, 6) := ⟨⟨by decide +kernel, by decide +kernel⟩, List.mem_of_getElem? (i := 10) (by decide +kernel), List.mem_of_getElem? (i := 273) (by decide +kernel), List.mem_of_getElem? (i := 274) (by decide +kernel)⟩
theorem lw_p25 : lw_okq (⟨"ToldFacts$FactSet", "isSameAs", "(LToldFacts$FactSet;)Z"⟩, 1) := ⟨⟨by decide +kernel, by decide +kernel⟩, List.mem_of_getElem? (i := 56) (by decide +kernel), List.mem_of_getElem? (i := 286) (by decide +kernel), List.mem_of_getElem? (i := 287) (by decide +kernel)⟩
theorem lw_p26 : lw_okq (⟨"ToldFacts$Desk", "learnPending", "()V"⟩, 6) := ⟨⟨by decide +kernel, by decide +kernel⟩, List.mem_of_getElem? (i := 89) (by decide +kernel), List.mem_of_getElem? (i := 298) (by decide +kernel), List.mem_of_getElem? (i := 299) (by decide +kernel)⟩
theorem lw_p27 : lw_okq (⟨"ToldFacts", "playTurn", "(LToldFacts$Draw;)V"⟩, 6) := ⟨⟨by decide +kernel, by decide +kernel⟩, List.mem_of_getElem? (i := 10) (by decide +kernel), List.mem_of_getElem? (i := 317) (by decide +kernel), List.mem_of_getElem? (i := 318) (by decide +kernel)⟩
theorem lw_p28 : lw_okq (⟨"ToldFacts$Draw", "below", "(I)I"⟩, 1) := ⟨⟨by decide +kernel, by decide +kernel⟩, List.mem_of_getElem? (i := 307) (by decide +kernel), List.mem_of_getElem? (i := 321) (by decide +kernel), List.mem_of_getElem? (i := 322) (by decide +kernel)⟩
theorem lw_p29 : lw_okq (⟨"ToldFacts$Facts", "pickEqual", "(LToldFacts$FactSet;IJLToldFacts$FactSet;)V"⟩, 8) := ⟨⟨by decide +kernel, by decide +kernel⟩, List.mem_of_getElem? (i := 20) (by decide +kernel), List.mem_of_getElem? (i := 336) (by decide +kernel), List.mem_of_getElem? (i := 337) (by decide +kernel)⟩
theorem lw_p30 : lw_okq (⟨"ToldFactsModel", "isDesk", "(I)Z"⟩, 18) := ⟨⟨by decide +kernel, by decide +kernel⟩, List.mem_of_getElem? (i := 342) (by decide +kernel), List.mem_of_getElem? (i := 413) (by decide +kernel), List.mem_of_getElem? (i := 414) (by decide +kernel)⟩
theorem lw_p31 : lw_okq (⟨"ToldFactsModel", "add", "(IIIJJ)I"⟩, 18) := ⟨⟨by decide +kernel, by decide +kernel⟩, List.mem_of_getElem? (i := 342) (by decide +kernel), List.mem_of_getElem? (i := 418) (by decide +kernel), List.mem_of_getElem? (i := 419) (by decide +kernel)⟩
def lw_privs_2 : List (MethodName × Nat) := [(⟨"ToldFacts$Facts", "isConflictFrom", "(ILToldFacts$FactSet;)Z"⟩, 8), (⟨"ToldFacts$Facts", "pickToldBy", "(JLToldFacts$FactSet;LToldFacts$FactSet;)V"⟩, 8), (⟨"ToldFacts$Facts", "latestStanding", "(LToldFacts$FactSet;IIJ)I"⟩, 8), (⟨"ToldFacts$Facts", "isLater", "(II)Z"⟩, 8), (⟨"ToldFacts$Facts", "conflictSpot", "(LToldFacts$FactSet;II)I"⟩, 8), (⟨"ToldFacts$Facts", "pickStanding", "(LToldFacts$FactSet;ILToldFacts$FactSet;)V"⟩, 8), (⟨"ToldFacts$FactSet", "size", "()I"⟩, 1), (⟨"ToldFacts$Facts", "inOrder", "(LToldFacts$FactSet;I)I"⟩, 8), (⟨"ToldFacts", "numberOrNone", "(I)I"⟩, 6), (⟨"ToldFacts$FactSet", "isSameAs", "(LToldFacts$FactSet;)Z"⟩, 1), (⟨"ToldFacts$Desk", "learnPending", "()V"⟩, 6), (⟨"ToldFacts", "playTurn", "(LToldFacts$Draw;)V"⟩, 6), (⟨"ToldFacts$Draw", "below", "(I)I"⟩, 1), (⟨"ToldFacts$Facts", "pickEqual", "(LToldFacts$FactSet;IJLToldFacts$FactSet;)V"⟩, 8), (⟨"ToldFactsModel", "isDesk", "(I)Z"⟩, 18), (⟨"ToldFactsModel", "add", "(IIIJJ)I"⟩, 18)]
theorem lw_r2 : ∀ q ∈ lw_privs_2, lw_okq q := List.forall_mem_cons.mpr ⟨lw_p16, List.forall_mem_cons.mpr ⟨lw_p17, List.forall_mem_cons.mpr ⟨lw_p18, List.forall_mem_cons.mpr ⟨lw_p19, List.forall_mem_cons.mpr ⟨lw_p20, List.forall_mem_cons.mpr ⟨lw_p21, List.forall_mem_cons.mpr ⟨lw_p22, List.forall_mem_cons.mpr ⟨lw_p23, List.forall_mem_cons.mpr ⟨lw_p24, List.forall_mem_cons.mpr ⟨lw_p25, List.forall_mem_cons.mpr ⟨lw_p26, List.forall_mem_cons.mpr ⟨lw_p27, List.forall_mem_cons.mpr ⟨lw_p28, List.forall_mem_cons.mpr ⟨lw_p29, List.forall_mem_cons.mpr ⟨lw_p30, List.forall_mem_cons.mpr ⟨lw_p31, fun _ h => absurd h List.not_mem_nil⟩⟩⟩⟩⟩⟩⟩⟩⟩⟩⟩⟩⟩⟩⟩⟩
theorem lw_p32 : lw_okq (⟨"ToldFactsModel", "place", "(I)I"⟩, 18) := ⟨⟨by decide +kernel, by decide +kernel⟩, List.mem_of_getElem? (i := 342) (by decide +kernel), List.mem_of_getElem? (i := 426) (by decide +kernel), List.mem_of_getElem? (i := 427) (by decide +kernel)⟩
theorem lw_p33 : lw_okq (⟨"ToldFactsModel", "look", "(I)V"⟩, 18) := ⟨⟨by decide +kernel, by decide +kernel⟩, List.mem_of_getElem? (i := 342) (by decide +kernel), List.mem_of_getElem? (i := 430) (by decide +kernel), List.mem_of_getElem? (i := 431) (by decide +kernel)⟩
theorem lw_p34 : lw_okq (⟨"ToldFactsModel", "conflicts", "(I)I"⟩, 18) := ⟨⟨by decide +kernel, by decide +kernel⟩, List.mem_of_getElem? (i := 342) (by decide +kernel), List.mem_of_getElem? (i := 438) (by decide +kernel), List.mem_of_getElem? (i := 439) (by decide +kernel)⟩
theorem lw_p35 : lw_okq (⟨"ToldFactsModel", "isFirstOfConflict", "(I)Z"⟩, 18) := ⟨⟨by decide +kernel, by decide +kernel⟩, List.mem_of_getElem? (i := 342) (by decide +kernel), List.mem_of_getElem? (i := 442) (by decide +kernel), List.mem_of_getElem? (i := 443) (by decide +kernel)⟩
theorem lw_p36 : lw_okq (⟨"ToldFactsModel", "areOne", "(II)Z"⟩, 18) := ⟨⟨by decide +kernel, by decide +kernel⟩, List.mem_of_getElem? (i := 342) (by decide +kernel), List.mem_of_getElem? (i := 446) (by decide +kernel), List.mem_of_getElem? (i := 447) (by decide +kernel)⟩
theorem lw_p37 : lw_okq (⟨"ToldFactsModel", "isBefore", "(II)Z"⟩, 18) := ⟨⟨by decide +kernel, by decide +kernel⟩, List.mem_of_getElem? (i := 342) (by decide +kernel), List.mem_of_getElem? (i := 454) (by decide +kernel), List.mem_of_getElem? (i := 455) (by decide +kernel)⟩
theorem lw_p38 : lw_okq (⟨"ToldFactsModel", "standing", "(II)I"⟩, 18) := ⟨⟨by decide +kernel, by decide +kernel⟩, List.mem_of_getElem? (i := 342) (by decide +kernel), List.mem_of_getElem? (i := 458) (by decide +kernel), List.mem_of_getElem? (i := 459) (by decide +kernel)⟩
theorem lw_p39 : lw_okq (⟨"ToldFactsModel", "stands", "(IIJ)Z"⟩, 18) := ⟨⟨by decide +kernel, by decide +kernel⟩, List.mem_of_getElem? (i := 342) (by decide +kernel), List.mem_of_getElem? (i := 471) (by decide +kernel), List.mem_of_getElem? (i := 472) (by decide +kernel)⟩
theorem lw_p40 : lw_okq (⟨"ToldFactsModel", "isKnown", "(IIJ)Z"⟩, 18) := ⟨⟨by decide +kernel, by decide +kernel⟩, List.mem_of_getElem? (i := 342) (by decide +kernel), List.mem_of_getElem? (i := 475) (by decide +kernel), List.mem_of_getElem? (i := 476) (by decide +kernel)⟩
theorem lw_p41 : lw_okq (⟨"ToldFactsModel", "draw", "(I)I"⟩, 18) := ⟨⟨by decide +kernel, by decide +kernel⟩, List.mem_of_getElem? (i := 342) (by decide +kernel), List.mem_of_getElem? (i := 503) (by decide +kernel), List.mem_of_getElem? (i := 504) (by decide +kernel)⟩
def lw_privs_3 : List (MethodName × Nat) := [(⟨"ToldFactsModel", "place", "(I)I"⟩, 18), (⟨"ToldFactsModel", "look", "(I)V"⟩, 18), (⟨"ToldFactsModel", "conflicts", "(I)I"⟩, 18), (⟨"ToldFactsModel", "isFirstOfConflict", "(I)Z"⟩, 18), (⟨"ToldFactsModel", "areOne", "(II)Z"⟩, 18), (⟨"ToldFactsModel", "isBefore", "(II)Z"⟩, 18), (⟨"ToldFactsModel", "standing", "(II)I"⟩, 18), (⟨"ToldFactsModel", "stands", "(IIJ)Z"⟩, 18), (⟨"ToldFactsModel", "isKnown", "(IIJ)Z"⟩, 18), (⟨"ToldFactsModel", "draw", "(I)I"⟩, 18)]
theorem lw_r3 : ∀ q ∈ lw_privs_3, lw_okq q := List.forall_mem_cons.mpr ⟨lw_p32, List.forall_mem_cons.mpr ⟨lw_p33, List.forall_mem_cons.mpr ⟨lw_p34, List.forall_mem_cons.mpr ⟨lw_p35, List.forall_mem_cons.mpr ⟨lw_p36, List.forall_mem_cons.mpr ⟨lw_p37, List.forall_mem_cons.mpr ⟨lw_p38, List.forall_mem_cons.mpr ⟨lw_p39, List.forall_mem_cons.mpr ⟨lw_p40, List.forall_mem_cons.mpr ⟨lw_p41, fun _ h => absurd h List.not_mem_nil⟩⟩⟩⟩⟩⟩⟩⟩⟩⟩
def lw_privs : List (MethodName × Nat) := lw_privs_1 ++ (lw_privs_2 ++ (lw_privs_3))
def lw_tbl : List Cond := k2_sels lw_privs ++ tables_1
theorem lw_privs_ok : ∀ q ∈ lw_privs, lw_okq q := by
  show ∀ q ∈ lw_privs_1 ++ (lw_privs_2 ++ (lw_privs_3)), lw_okq q
  exact List.forall_mem_append.mpr ⟨lw_r1, List.forall_mem_append.mpr ⟨lw_r2, lw_r3⟩⟩

def TB : List Cond := lw_tbl.filter goodWord
theorem TB_good (w : Cond) (h : w ∈ TB) : (w.onTables && w.keeps) = true ∨ ∃ ty, w = .arrayClass ty := good_of_word (List.mem_filter.mp h).2
theorem TB_in (w : Cond) (h : w ∈ TB) : w ∈ lw_tbl := (List.mem_filter.mp h).1
theorem tb_t {w : Cond} (i : Nat) (h : tables_1[i]? = some w) (g : goodWord w = true) : w ∈ TB := List.mem_filter.mpr ⟨List.mem_append_right _ (List.mem_of_getElem? h), g⟩
theorem tb_p {w : Cond} (i : Nat) (h : (k2_sels lw_privs)[i]? = some w) (g : goodWord w = true) : w ∈ TB := List.mem_filter.mpr ⟨List.mem_append_left _ (List.mem_of_getElem? h), g⟩
def isNest : Cond → Bool
  | .methodLinkNest .. => true
  | .fieldLinkNest .. => true
  | _ => false
def NW : List Cond := tables_1.filter isNest
theorem NW_in (w : Cond) (h : w ∈ NW) : w ∈ lw_tbl := List.mem_append_right _ (List.mem_filter.mp h).1
theorem nw_t {w : Cond} (i : Nat) (h : tables_1[i]? = some w) (g : isNest w = true) : w ∈ NW := List.mem_filter.mpr ⟨List.mem_of_getElem? h, g⟩
theorem NW_on : ∀ w ∈ NW, w.onTables = true := fun w hw => by
  have h := (List.mem_filter.mp hw).2
  cases w <;> first | rfl | (simp [isNest] at h)
theorem NW_warm : ∀ w ∈ NW, ∀ {s U : State}, s.WarmedH U.vm → va_Nw w s → va_Nw w U := fun w hw s U hW hz => by
  have h := (List.mem_filter.mp hw).2
  cases w <;> first | exact va_Nw.warmM hW hz | exact va_Nw.warmF hW hz | (simp [isNest] at h)
def R_T : String := "ToldFacts"
def F_T : u_T := fun k => match k with
  | 0 => ("ToldFacts", "desks", "[LToldFacts$Desk;", true)
  | 1 => ("ToldFacts", "batchDesks", "[I", true)
  | 2 => ("ToldFacts", "facts", "LToldFacts$Facts;", true)
  | 3 => ("ToldFacts", "picked", "LToldFacts$FactSet;", true)
  | 4 => ("ToldFacts", "deskCount", "I", false)
  | _ => ("ToldFacts", "batchCount", "I", false)
def ft_T : Nat → FieldType := fun k => match k with
  | 0 => .array (.object "ToldFacts$Desk")
  | 1 => .array .int
  | 2 => .object "ToldFacts$Facts"
  | 3 => .object "ToldFacts$FactSet"
  | 4 => .int
  | _ => .int
def R_S : String := "ToldFacts$FactSet"
def F_S : u_T := fun k => match k with
  | _ => ("ToldFacts$FactSet", "words", "[J", true)
def ft_S : Nat → FieldType := fun k => match k with
  | _ => .array .long
def R_A : String := "ToldFacts$Facts"
def F_A : u_T := fun k => match k with
  | 0 => ("ToldFacts$Facts", "numbers", "[I", true)
  | 1 => ("ToldFacts$Facts", "spots", "[I", true)
  | 2 => ("ToldFacts$Facts", "values", "[J", true)
  | 3 => ("ToldFacts$Facts", "times", "[I", true)
  | 4 => ("ToldFacts$Facts", "replacers", "[J", true)
  | 5 => ("ToldFacts$Facts", "byNumber", "[I", true)
  | 6 => ("ToldFacts$Facts", "bySpot", "[I", true)
  | _ => ("ToldFacts$Facts", "count", "I", false)
def ft_A : Nat → FieldType := fun k => match k with
  | 0 => .array .int
  | 1 => .array .int
  | 2 => .array .long
  | 3 => .array .int
  | 4 => .array .long
  | 5 => .array .int
  | 6 => .array .int
  | _ => .int
def R_K : String := "ToldFacts$Desk"
def F_K : u_T := fun k => match k with
  | 0 => ("ToldFacts$Desk", "number", "I", true)
  | 1 => ("ToldFacts$Desk", "knows", "LToldFacts$FactSet;", true)
  | 2 => ("ToldFacts$Desk", "pending", "LToldFacts$FactSet;", true)
  | 3 => ("ToldFacts$Desk", "clock", "I", false)
  | 4 => ("ToldFacts$Desk", "toldCount", "I", false)
  | _ => ("ToldFacts$Desk", "openBatch", "I", false)
def ft_K : Nat → FieldType := fun k => match k with
  | 0 => .int
  | 1 => .object "ToldFacts$FactSet"
  | 2 => .object "ToldFacts$FactSet"
  | 3 => .int
  | 4 => .int
  | _ => .int
def R_W : String := "ToldFacts$Draw"
def F_W : u_T := fun k => match k with
  | _ => ("ToldFacts$Draw", "x", "J", false)
def ft_W : Nat → FieldType := fun k => match k with
  | _ => .long
def R_M : String := "ToldFactsModel"
def F_M : u_T := fun k => match k with
  | 0 => ("ToldFactsModel", "desks", "I", false)
  | 1 => ("ToldFactsModel", "clock", "[J", true)
  | 2 => ("ToldFactsModel", "toldAt", "[I", true)
  | 3 => ("ToldFactsModel", "open", "[I", true)
  | 4 => ("ToldFactsModel", "number", "[I", true)
  | 5 => ("ToldFactsModel", "thing", "[I", true)
  | 6 => ("ToldFactsModel", "kind", "[I", true)
  | 7 => ("ToldFactsModel", "day", "[J", true)
  | 8 => ("ToldFactsModel", "value", "[J", true)
  | 9 => ("ToldFactsModel", "time", "[J", true)
  | 10 => ("ToldFactsModel", "batchOf", "[I", true)
  | 11 => ("ToldFactsModel", "replaces", "[Z", true)
  | 12 => ("ToldFactsModel", "knows", "[Z", true)
  | 13 => ("ToldFactsModel", "facts", "I", false)
  | 14 => ("ToldFactsModel", "batchDesk", "[I", true)
  | 15 => ("ToldFactsModel", "batches", "I", false)
  | 16 => ("ToldFactsModel", "stand", "[Z", true)
  | _ => ("ToldFactsModel", "drawn", "J", false)
def ft_M : Nat → FieldType := fun k => match k with
  | 0 => .int
  | 1 => .array .long
  | 2 => .array .int
  | 3 => .array .int
  | 4 => .array .int
  | 5 => .array .int
  | 6 => .array .int
  | 7 => .array .long
  | 8 => .array .long
  | 9 => .array .long
  | 10 => .array .int
  | 11 => .array .boolean
  | 12 => .array .boolean
  | 13 => .int
  | 14 => .array .int
  | 15 => .int
  | 16 => .array .boolean
  | _ => .long
def R_L : String := "ToldFactsLaw"
def R_J : String := "java/lang/Long"
def R_MM : String := "java/lang/Math"
abbrev vwCl : List vw_C := [(R_T, F_T, 6), (R_S, F_S, 1), (R_A, F_A, 8), (R_K, F_K, 6), (R_W, F_W, 1), (R_M, F_M, 18)]
def Ck (ci : Nat) (C : String) (T : u_T) (N : Nat) (ty : Nat → FieldType) : Prop := vwCl[ci]? = some (C, T, N) ∧ (∀ w ∈ u_ws C T N, w ∈ TB) ∧ (∀ k, k < N → parseFieldDescriptor (T k).2.2.1 = some (ty k)) ∧ (∀ a, a < N → ∀ b, b < N → a ≠ b → (T a).2.1 ≠ (T b).2.1) ∧ ∀ k, k < N → (T k).1 = C
theorem ws_T : ∀ w ∈ u_ws R_T F_T 6, w ∈ TB := fun w h => by
  have e : u_ws R_T F_T 6 = [72, 74, 76, 78, 80, 82].filterMap (fun i => tables_1[i]?) := by decide +kernel
  have g : (u_ws R_T F_T 6).all goodWord = true := by decide +kernel
  have h1 := List.all_eq_true.mp g w h
  rw [e] at h
  obtain ⟨i, -, hi⟩ := List.mem_filterMap.mp h
  exact tb_t i hi h1
theorem ck_T : Ck 0 R_T F_T 6 ft_T := ⟨rfl, ws_T, by decide +kernel, by decide +kernel, by decide +kernel⟩
theorem ws_S : ∀ w ∈ u_ws R_S F_S 1, w ∈ TB := fun w h => by
  have e : u_ws R_S F_S 1 = [63].filterMap (fun i => tables_1[i]?) := by decide +kernel
  have g : (u_ws R_S F_S 1).all goodWord = true := by decide +kernel
  have h1 := List.all_eq_true.mp g w h
  rw [e] at h
  obtain ⟨i, -, hi⟩ := List.mem_filterMap.mp h
  exact tb_t i hi h1
theorem ck_S : Ck 1 R_S F_S 1 ft_S := ⟨rfl, ws_S, by decide +kernel, by decide +kernel, by decide +kernel⟩
theorem ws_A : ∀ w ∈ u_ws R_A F_A 8, w ∈ TB := fun w h => by
  have e : u_ws R_A F_A 8 = [36, 38, 40, 42, 44, 46, 48, 50].filterMap (fun i => tables_1[i]?) := by decide +kernel
  have g : (u_ws R_A F_A 8).all goodWord = true := by decide +kernel
  have h1 := List.all_eq_true.mp g w h
  rw [e] at h
  obtain ⟨i, -, hi⟩ := List.mem_filterMap.mp h
  exact tb_t i hi h1
theorem ck_A : Ck 2 R_A F_A 8 ft_A := ⟨rfl, ws_A, by decide +kernel, by decide +kernel, by decide +kernel⟩
theorem ws_K : ∀ w ∈ u_ws R_K F_K 6, w ∈ TB := fun w h => by
  have e : u_ws R_K F_K 6 = [104, 106, 108, 110, 112, 114].filterMap (fun i => tables_1[i]?) := by decide +kernel
  have g : (u_ws R_K F_K 6).all goodWord = true := by decide +kernel
  have h1 := List.all_eq_true.mp g w h
  rw [e] at h
  obtain ⟨i, -, hi⟩ := List.mem_filterMap.mp h
  exact tb_t i hi h1
theorem ck_K : Ck 3 R_K F_K 6 ft_K := ⟨rfl, ws_K, by decide +kernel, by decide +kernel, by decide +kernel⟩
theorem ws_W : ∀ w ∈ u_ws R_W F_W 1, w ∈ TB := fun w h => by
  have e : u_ws R_W F_W 1 = [313].filterMap (fun i => tables_1[i]?) := by decide +kernel
  have g : (u_ws R_W F_W 1).all goodWord = true := by decide +kernel
  have h1 := List.all_eq_true.mp g w h
  rw [e] at h
  obtain ⟨i, -, hi⟩ := List.mem_filterMap.mp h
  exact tb_t i hi h1
theorem ck_W : Ck 4 R_W F_W 1 ft_W := ⟨rfl, ws_W, by decide +kernel, by decide +kernel, by decide +kernel⟩
theorem ws_M : ∀ w ∈ u_ws R_M F_M 18, w ∈ TB := fun w h => by
  have e : u_ws R_M F_M 18 = [366, 368, 370, 372, 374, 376, 378, 380, 382, 384, 386, 388, 390, 392, 394, 396, 398, 400].filterMap (fun i => tables_1[i]?) := by decide +kernel
  have g : (u_ws R_M F_M 18).all goodWord = true := by decide +kernel
  have h1 := List.all_eq_true.mp g w h
  rw [e] at h
  obtain ⟨i, -, hi⟩ := List.mem_filterMap.mp h
  exact tb_t i hi h1
theorem ck_M : Ck 5 R_M F_M 18 ft_M := ⟨rfl, ws_M, by decide +kernel, by decide +kernel, by decide +kernel⟩
abbrev b_T_init : ByteArray := prog_1_method_1_code
def y_T_init : MethodName := ⟨R_T, "<init>", "()V"⟩
theorem cd_T_init : Cond.code y_T_init b_T_init 1 none ∈ TB := tb_t 13 (by decide +kernel) (by decide +kernel)
abbrev b_A_init : ByteArray := prog_5_method_1_code
def y_A_init : MethodName := ⟨R_A, "<init>", "()V"⟩
theorem cd_A_init : Cond.code y_A_init b_A_init 1 none ∈ TB := tb_t 23 (by decide +kernel) (by decide +kernel)
abbrev b_S_init : ByteArray := prog_4_method_1_code
def y_S_init : MethodName := ⟨R_S, "<init>", "()V"⟩
theorem cd_S_init : Cond.code y_S_init b_S_init 1 none ∈ TB := tb_t 59 (by decide +kernel) (by decide +kernel)
abbrev b_T_desk : ByteArray := prog_1_method_2_code
def y_T_desk : MethodName := ⟨R_T, "desk", "()I"⟩
theorem cd_T_desk : Cond.code y_T_desk b_T_desk 2 (some .int) ∈ TB := tb_t 88 (by decide +kernel) (by decide +kernel)
abbrev b_K_init : ByteArray := prog_2_method_1_code
def y_K_init : MethodName := ⟨R_K, "<init>", "(I)V"⟩
theorem cd_K_init : Cond.code y_K_init b_K_init 2 none ∈ TB := tb_t 92 (by decide +kernel) (by decide +kernel)
abbrev b_T_tell : ByteArray := prog_1_method_3_code
def y_T_tell : MethodName := ⟨R_T, "tell", "(IIIJJ)I"⟩
theorem cd_T_tell : Cond.code y_T_tell b_T_tell 9 (some .int) ∈ TB := tb_t 120 (by decide +kernel) (by decide +kernel)
abbrev b_T_deskAt : ByteArray := prog_1_method_15_code
def y_T_deskAt : MethodName := ⟨R_T, "deskAt", "(I)LToldFacts$Desk;"⟩
theorem cd_T_deskAt : Cond.code y_T_deskAt b_T_deskAt 2 (some (.object "ToldFacts$Desk")) ∈ TB := tb_t 124 (by decide +kernel) (by decide +kernel)
abbrev b_T_areThingAndKind : ByteArray := prog_1_method_20_code
def y_T_areThingAndKind : MethodName := ⟨R_T, "areThingAndKind", "(II)Z"⟩
theorem cd_T_areThingAndKind : Cond.code y_T_areThingAndKind b_T_areThingAndKind 2 (some .boolean) ∈ TB := tb_t 127 (by decide +kernel) (by decide +kernel)
abbrev b_S_clear : ByteArray := prog_4_method_6_code
def y_S_clear : MethodName := ⟨R_S, "clear", "()V"⟩
theorem cd_S_clear : Cond.code y_S_clear b_S_clear 2 none ∈ TB := tb_t 132 (by decide +kernel) (by decide +kernel)
abbrev b_T_spotOf : ByteArray := prog_1_method_21_code
def y_T_spotOf : MethodName := ⟨R_T, "spotOf", "(III)I"⟩
theorem cd_T_spotOf : Cond.code y_T_spotOf b_T_spotOf 3 (some .int) ∈ TB := tb_t 135 (by decide +kernel) (by decide +kernel)
abbrev b_T_tellReplacing : ByteArray := prog_1_method_18_code
def y_T_tellReplacing : MethodName := ⟨R_T, "tellReplacing", "(LToldFacts$Desk;IJLToldFacts$FactSet;)I"⟩
theorem cd_T_tellReplacing : Cond.code y_T_tellReplacing b_T_tellReplacing 8 (some .int) ∈ TB := tb_t 140 (by decide +kernel) (by decide +kernel)
abbrev b_K_nextNumber : ByteArray := prog_2_method_2_code
def y_K_nextNumber : MethodName := ⟨R_K, "nextNumber", "()I"⟩
theorem cd_K_nextNumber : Cond.code y_K_nextNumber b_K_nextNumber 1 (some .int) ∈ TB := tb_t 144 (by decide +kernel) (by decide +kernel)
abbrev b_K_nextTime : ByteArray := prog_2_method_3_code
def y_K_nextTime : MethodName := ⟨R_K, "nextTime", "()I"⟩
theorem cd_K_nextTime : Cond.code y_K_nextTime b_K_nextTime 1 (some .int) ∈ TB := tb_t 148 (by decide +kernel) (by decide +kernel)
abbrev b_A_append : ByteArray := prog_5_method_2_code
def y_A_append : MethodName := ⟨R_A, "append", "(IIJILToldFacts$FactSet;)I"⟩
theorem cd_A_append : Cond.code y_A_append b_A_append 9 (some .int) ∈ TB := tb_t 152 (by decide +kernel) (by decide +kernel)
abbrev b_S_has : ByteArray := prog_4_method_2_code
def y_S_has : MethodName := ⟨R_S, "has", "(I)Z"⟩
theorem cd_S_has : Cond.code y_S_has b_S_has 2 (some .boolean) ∈ TB := tb_t 156 (by decide +kernel) (by decide +kernel)
abbrev b_S_isPlace : ByteArray := prog_4_method_4_code
def y_S_isPlace : MethodName := ⟨R_S, "isPlace", "(I)Z"⟩
theorem cd_S_isPlace : Cond.code y_S_isPlace b_S_isPlace 1 (some .boolean) ∈ TB := tb_t 159 (by decide +kernel) (by decide +kernel)
abbrev b_A_insertByKey : ByteArray := prog_5_method_3_code
def y_A_insertByKey : MethodName := ⟨R_A, "insertByKey", "([I[II)V"⟩
theorem cd_A_insertByKey : Cond.code y_A_insertByKey b_A_insertByKey 4 none ∈ TB := tb_t 162 (by decide +kernel) (by decide +kernel)
abbrev b_K_hear : ByteArray := prog_2_method_4_code
def y_K_hear : MethodName := ⟨R_K, "hear", "(I)V"⟩
theorem cd_K_hear : Cond.code y_K_hear b_K_hear 2 none ∈ TB := tb_t 166 (by decide +kernel) (by decide +kernel)
abbrev b_S_add : ByteArray := prog_4_method_3_code
def y_S_add : MethodName := ⟨R_S, "add", "(I)V"⟩
theorem cd_S_add : Cond.code y_S_add b_S_add 2 none ∈ TB := tb_t 170 (by decide +kernel) (by decide +kernel)
abbrev b_T_correct : ByteArray := prog_1_method_4_code
def y_T_correct : MethodName := ⟨R_T, "correct", "(IIJ)I"⟩
theorem cd_T_correct : Cond.code y_T_correct b_T_correct 7 (some .int) ∈ TB := tb_t 174 (by decide +kernel) (by decide +kernel)
abbrev b_A_withNumber : ByteArray := prog_5_method_4_code
def y_A_withNumber : MethodName := ⟨R_A, "withNumber", "(I)I"⟩
theorem cd_A_withNumber : Cond.code y_A_withNumber b_A_withNumber 3 (some .int) ∈ TB := tb_t 178 (by decide +kernel) (by decide +kernel)
abbrev b_A_standsAmong : ByteArray := prog_5_method_6_code
def y_A_standsAmong : MethodName := ⟨R_A, "standsAmong", "(LToldFacts$FactSet;I)Z"⟩
theorem cd_A_standsAmong : Cond.code y_A_standsAmong b_A_standsAmong 4 (some .boolean) ∈ TB := tb_t 182 (by decide +kernel) (by decide +kernel)
abbrev b_T_join : ByteArray := prog_1_method_5_code
def y_T_join : MethodName := ⟨R_T, "join", "(II)I"⟩
theorem cd_T_join : Cond.code y_T_join b_T_join 4 (some .int) ∈ TB := tb_t 187 (by decide +kernel) (by decide +kernel)
abbrev b_T_joined : ByteArray := prog_1_method_17_code
def y_T_joined : MethodName := ⟨R_T, "joined", "(II)LToldFacts$Desk;"⟩
theorem cd_T_joined : Cond.code y_T_joined b_T_joined 5 (some (.object "ToldFacts$Desk")) ∈ TB := tb_t 191 (by decide +kernel) (by decide +kernel)
abbrev b_K_learnFrom : ByteArray := prog_2_method_5_code
def y_K_learnFrom : MethodName := ⟨R_K, "learnFrom", "(LToldFacts$Desk;)V"⟩
theorem cd_K_learnFrom : Cond.code y_K_learnFrom b_K_learnFrom 2 none ∈ TB := tb_t 195 (by decide +kernel) (by decide +kernel)
abbrev b_S_addAll : ByteArray := prog_4_method_5_code
def y_S_addAll : MethodName := ⟨R_S, "addAll", "(LToldFacts$FactSet;)V"⟩
theorem cd_S_addAll : Cond.code y_S_addAll b_S_addAll 3 none ∈ TB := tb_t 199 (by decide +kernel) (by decide +kernel)
abbrev b_MM_max : ByteArray := prog_9_method_65_code
def y_MM_max : MethodName := ⟨R_MM, "max", "(II)I"⟩
theorem cd_MM_max : Cond.code y_MM_max b_MM_max 2 (some .int) ∈ TB := tb_t 202 (by decide +kernel) (by decide +kernel)
abbrev b_A_countConflicts : ByteArray := prog_5_method_12_code
def y_A_countConflicts : MethodName := ⟨R_A, "countConflicts", "(LToldFacts$FactSet;)I"⟩
theorem cd_A_countConflicts : Cond.code y_A_countConflicts b_A_countConflicts 4 (some .int) ∈ TB := tb_t 206 (by decide +kernel) (by decide +kernel)
abbrev b_A_isFirstOfSpot : ByteArray := prog_5_method_14_code
def y_A_isFirstOfSpot : MethodName := ⟨R_A, "isFirstOfSpot", "(I)Z"⟩
theorem cd_A_isFirstOfSpot : Cond.code y_A_isFirstOfSpot b_A_isFirstOfSpot 2 (some .boolean) ∈ TB := tb_t 210 (by decide +kernel) (by decide +kernel)
abbrev b_A_isConflictFrom : ByteArray := prog_5_method_15_code
def y_A_isConflictFrom : MethodName := ⟨R_A, "isConflictFrom", "(ILToldFacts$FactSet;)Z"⟩
theorem cd_A_isConflictFrom : Cond.code y_A_isConflictFrom b_A_isConflictFrom 7 (some .boolean) ∈ TB := tb_t 214 (by decide +kernel) (by decide +kernel)
abbrev b_T_known : ByteArray := prog_1_method_6_code
def y_T_known : MethodName := ⟨R_T, "known", "(IIIJJ)J"⟩
theorem cd_T_known : Cond.code y_T_known b_T_known 10 (some .long) ∈ TB := tb_t 219 (by decide +kernel) (by decide +kernel)
abbrev b_A_pickToldBy : ByteArray := prog_5_method_8_code
def y_A_pickToldBy : MethodName := ⟨R_A, "pickToldBy", "(JLToldFacts$FactSet;LToldFacts$FactSet;)V"⟩
theorem cd_A_pickToldBy : Cond.code y_A_pickToldBy b_A_pickToldBy 6 none ∈ TB := tb_t 224 (by decide +kernel) (by decide +kernel)
abbrev b_A_latestStanding : ByteArray := prog_5_method_10_code
def y_A_latestStanding : MethodName := ⟨R_A, "latestStanding", "(LToldFacts$FactSet;IIJ)I"⟩
theorem cd_A_latestStanding : Cond.code y_A_latestStanding b_A_latestStanding 9 (some .int) ∈ TB := tb_t 230 (by decide +kernel) (by decide +kernel)
abbrev b_T_dayOf : ByteArray := prog_1_method_24_code
def y_T_dayOf : MethodName := ⟨R_T, "dayOf", "(I)I"⟩
theorem cd_T_dayOf : Cond.code y_T_dayOf b_T_dayOf 1 (some .int) ∈ TB := tb_t 234 (by decide +kernel) (by decide +kernel)
abbrev b_A_isLater : ByteArray := prog_5_method_11_code
def y_A_isLater : MethodName := ⟨R_A, "isLater", "(II)Z"⟩
theorem cd_A_isLater : Cond.code y_A_isLater b_A_isLater 3 (some .boolean) ∈ TB := tb_t 238 (by decide +kernel) (by decide +kernel)
abbrev b_T_conflict : ByteArray := prog_1_method_7_code
def y_T_conflict : MethodName := ⟨R_T, "conflict", "(III)I"⟩
theorem cd_T_conflict : Cond.code y_T_conflict b_T_conflict 6 (some .int) ∈ TB := tb_t 242 (by decide +kernel) (by decide +kernel)
abbrev b_A_conflictSpot : ByteArray := prog_5_method_13_code
def y_A_conflictSpot : MethodName := ⟨R_A, "conflictSpot", "(LToldFacts$FactSet;II)I"⟩
theorem cd_A_conflictSpot : Cond.code y_A_conflictSpot b_A_conflictSpot 7 (some .int) ∈ TB := tb_t 246 (by decide +kernel) (by decide +kernel)
abbrev b_A_pickStanding : ByteArray := prog_5_method_7_code
def y_A_pickStanding : MethodName := ⟨R_A, "pickStanding", "(LToldFacts$FactSet;ILToldFacts$FactSet;)V"⟩
theorem cd_A_pickStanding : Cond.code y_A_pickStanding b_A_pickStanding 5 none ∈ TB := tb_t 250 (by decide +kernel) (by decide +kernel)
abbrev b_T_thingOf : ByteArray := prog_1_method_22_code
def y_T_thingOf : MethodName := ⟨R_T, "thingOf", "(I)I"⟩
theorem cd_T_thingOf : Cond.code y_T_thingOf b_T_thingOf 1 (some .int) ∈ TB := tb_t 253 (by decide +kernel) (by decide +kernel)
abbrev b_T_kindOf : ByteArray := prog_1_method_23_code
def y_T_kindOf : MethodName := ⟨R_T, "kindOf", "(I)I"⟩
theorem cd_T_kindOf : Cond.code y_T_kindOf b_T_kindOf 1 (some .int) ∈ TB := tb_t 256 (by decide +kernel) (by decide +kernel)
abbrev b_S_size : ByteArray := prog_4_method_7_code
def y_S_size : MethodName := ⟨R_S, "size", "()I"⟩
theorem cd_S_size : Cond.code y_S_size b_S_size 3 (some .int) ∈ TB := tb_t 261 (by decide +kernel) (by decide +kernel)
abbrev b_J_bitCount : ByteArray := prog_8_method_50_code
def y_J_bitCount : MethodName := ⟨R_J, "bitCount", "(J)I"⟩
theorem cd_J_bitCount : Cond.code y_J_bitCount b_J_bitCount 2 (some .int) ∈ TB := tb_t 264 (by decide +kernel) (by decide +kernel)
abbrev b_A_inOrder : ByteArray := prog_5_method_5_code
def y_A_inOrder : MethodName := ⟨R_A, "inOrder", "(LToldFacts$FactSet;I)I"⟩
theorem cd_A_inOrder : Cond.code y_A_inOrder b_A_inOrder 6 (some .int) ∈ TB := tb_t 271 (by decide +kernel) (by decide +kernel)
abbrev b_T_numberOrNone : ByteArray := prog_1_method_16_code
def y_T_numberOrNone : MethodName := ⟨R_T, "numberOrNone", "(I)I"⟩
theorem cd_T_numberOrNone : Cond.code y_T_numberOrNone b_T_numberOrNone 2 (some .int) ∈ TB := tb_t 275 (by decide +kernel) (by decide +kernel)
abbrev b_T_settle : ByteArray := prog_1_method_8_code
def y_T_settle : MethodName := ⟨R_T, "settle", "(IIII)I"⟩
theorem cd_T_settle : Cond.code y_T_settle b_T_settle 8 (some .int) ∈ TB := tb_t 279 (by decide +kernel) (by decide +kernel)
abbrev b_T_equal : ByteArray := prog_1_method_9_code
def y_T_equal : MethodName := ⟨R_T, "equal", "(II)Z"⟩
theorem cd_T_equal : Cond.code y_T_equal b_T_equal 5 (some .boolean) ∈ TB := tb_t 284 (by decide +kernel) (by decide +kernel)
abbrev b_S_isSameAs : ByteArray := prog_4_method_8_code
def y_S_isSameAs : MethodName := ⟨R_S, "isSameAs", "(LToldFacts$FactSet;)Z"⟩
theorem cd_S_isSameAs : Cond.code y_S_isSameAs b_S_isSameAs 3 (some .boolean) ∈ TB := tb_t 288 (by decide +kernel) (by decide +kernel)
abbrev b_T_batch : ByteArray := prog_1_method_10_code
def y_T_batch : MethodName := ⟨R_T, "batch", "(I)I"⟩
theorem cd_T_batch : Cond.code y_T_batch b_T_batch 4 (some .int) ∈ TB := tb_t 292 (by decide +kernel) (by decide +kernel)
abbrev b_T_endBatch : ByteArray := prog_1_method_11_code
def y_T_endBatch : MethodName := ⟨R_T, "endBatch", "(I)Z"⟩
theorem cd_T_endBatch : Cond.code y_T_endBatch b_T_endBatch 3 (some .boolean) ∈ TB := tb_t 296 (by decide +kernel) (by decide +kernel)
abbrev b_K_learnPending : ByteArray := prog_2_method_6_code
def y_K_learnPending : MethodName := ⟨R_K, "learnPending", "()V"⟩
theorem cd_K_learnPending : Cond.code y_K_learnPending b_K_learnPending 1 none ∈ TB := tb_t 300 (by decide +kernel) (by decide +kernel)
abbrev b_T_play : ByteArray := prog_1_method_12_code
def y_T_play : MethodName := ⟨R_T, "play", "(JI)I"⟩
theorem cd_T_play : Cond.code y_T_play b_T_play 7 (some .int) ∈ TB := tb_t 305 (by decide +kernel) (by decide +kernel)
abbrev b_W_init : ByteArray := prog_3_method_1_code
def y_W_init : MethodName := ⟨R_W, "<init>", "(J)V"⟩
theorem cd_W_init : Cond.code y_W_init b_W_init 3 none ∈ TB := tb_t 310 (by decide +kernel) (by decide +kernel)
abbrev b_T_playTurn : ByteArray := prog_1_method_19_code
def y_T_playTurn : MethodName := ⟨R_T, "playTurn", "(LToldFacts$Draw;)V"⟩
theorem cd_T_playTurn : Cond.code y_T_playTurn b_T_playTurn 7 none ∈ TB := tb_t 319 (by decide +kernel) (by decide +kernel)
abbrev b_W_below : ByteArray := prog_3_method_2_code
def y_W_below : MethodName := ⟨R_W, "below", "(I)I"⟩
theorem cd_W_below : Cond.code y_W_below b_W_below 2 (some .int) ∈ TB := tb_t 323 (by decide +kernel) (by decide +kernel)
abbrev b_T_counts : ByteArray := prog_1_method_14_code
def y_T_counts : MethodName := ⟨R_T, "counts", "(I)I"⟩
theorem cd_T_counts : Cond.code y_T_counts b_T_counts 3 (some .int) ∈ TB := tb_t 330 (by decide +kernel) (by decide +kernel)
abbrev b_T_find : ByteArray := prog_1_method_13_code
def y_T_find : MethodName := ⟨R_T, "find", "(IIJI)I"⟩
theorem cd_T_find : Cond.code y_T_find b_T_find 7 (some .int) ∈ TB := tb_t 334 (by decide +kernel) (by decide +kernel)
abbrev b_A_pickEqual : ByteArray := prog_5_method_9_code
def y_A_pickEqual : MethodName := ⟨R_A, "pickEqual", "(LToldFacts$FactSet;IJLToldFacts$FactSet;)V"⟩
theorem cd_A_pickEqual : Cond.code y_A_pickEqual b_A_pickEqual 7 none ∈ TB := tb_t 338 (by decide +kernel) (by decide +kernel)
abbrev b_M_init : ByteArray := prog_7_method_1_code
def y_M_init : MethodName := ⟨R_M, "<init>", "()V"⟩
theorem cd_M_init : Cond.code y_M_init b_M_init 1 none ∈ TB := tb_t 345 (by decide +kernel) (by decide +kernel)
abbrev b_M_desk : ByteArray := prog_7_method_3_code
def y_M_desk : MethodName := ⟨R_M, "desk", "()I"⟩
theorem cd_M_desk : Cond.code y_M_desk b_M_desk 1 (some .int) ∈ TB := tb_t 407 (by decide +kernel) (by decide +kernel)
abbrev b_M_tell : ByteArray := prog_7_method_5_code
def y_M_tell : MethodName := ⟨R_M, "tell", "(IIIJJ)I"⟩
theorem cd_M_tell : Cond.code y_M_tell b_M_tell 8 (some .int) ∈ TB := tb_t 411 (by decide +kernel) (by decide +kernel)
abbrev b_M_isDesk : ByteArray := prog_7_method_2_code
def y_M_isDesk : MethodName := ⟨R_M, "isDesk", "(I)Z"⟩
theorem cd_M_isDesk : Cond.code y_M_isDesk b_M_isDesk 2 (some .boolean) ∈ TB := tb_t 415 (by decide +kernel) (by decide +kernel)
abbrev b_M_add : ByteArray := prog_7_method_4_code
def y_M_add : MethodName := ⟨R_M, "add", "(IIIJJ)I"⟩
theorem cd_M_add : Cond.code y_M_add b_M_add 9 (some .int) ∈ TB := tb_t 420 (by decide +kernel) (by decide +kernel)
abbrev b_M_correct : ByteArray := prog_7_method_10_code
def y_M_correct : MethodName := ⟨R_M, "correct", "(IIJ)I"⟩
theorem cd_M_correct : Cond.code y_M_correct b_M_correct 7 (some .int) ∈ TB := tb_t 424 (by decide +kernel) (by decide +kernel)
abbrev b_M_place : ByteArray := prog_7_method_6_code
def y_M_place : MethodName := ⟨R_M, "place", "(I)I"⟩
theorem cd_M_place : Cond.code y_M_place b_M_place 3 (some .int) ∈ TB := tb_t 428 (by decide +kernel) (by decide +kernel)
abbrev b_M_look : ByteArray := prog_7_method_9_code
def y_M_look : MethodName := ⟨R_M, "look", "(I)V"⟩
theorem cd_M_look : Cond.code y_M_look b_M_look 4 none ∈ TB := tb_t 432 (by decide +kernel) (by decide +kernel)
abbrev b_M_join : ByteArray := prog_7_method_15_code
def y_M_join : MethodName := ⟨R_M, "join", "(II)I"⟩
theorem cd_M_join : Cond.code y_M_join b_M_join 4 (some .int) ∈ TB := tb_t 436 (by decide +kernel) (by decide +kernel)
abbrev b_M_conflicts : ByteArray := prog_7_method_13_code
def y_M_conflicts : MethodName := ⟨R_M, "conflicts", "(I)I"⟩
theorem cd_M_conflicts : Cond.code y_M_conflicts b_M_conflicts 4 (some .int) ∈ TB := tb_t 440 (by decide +kernel) (by decide +kernel)
abbrev b_M_isFirstOfConflict : ByteArray := prog_7_method_12_code
def y_M_isFirstOfConflict : MethodName := ⟨R_M, "isFirstOfConflict", "(I)Z"⟩
theorem cd_M_isFirstOfConflict : Cond.code y_M_isFirstOfConflict b_M_isFirstOfConflict 4 (some .boolean) ∈ TB := tb_t 444 (by decide +kernel) (by decide +kernel)
abbrev b_M_areOne : ByteArray := prog_7_method_11_code
def y_M_areOne : MethodName := ⟨R_M, "areOne", "(II)Z"⟩
theorem cd_M_areOne : Cond.code y_M_areOne b_M_areOne 3 (some .boolean) ∈ TB := tb_t 448 (by decide +kernel) (by decide +kernel)
abbrev b_M_conflict : ByteArray := prog_7_method_17_code
def y_M_conflict : MethodName := ⟨R_M, "conflict", "(III)I"⟩
theorem cd_M_conflict : Cond.code y_M_conflict b_M_conflict 7 (some .int) ∈ TB := tb_t 452 (by decide +kernel) (by decide +kernel)
abbrev b_M_isBefore : ByteArray := prog_7_method_14_code
def y_M_isBefore : MethodName := ⟨R_M, "isBefore", "(II)Z"⟩
theorem cd_M_isBefore : Cond.code y_M_isBefore b_M_isBefore 3 (some .boolean) ∈ TB := tb_t 456 (by decide +kernel) (by decide +kernel)
abbrev b_M_standing : ByteArray := prog_7_method_16_code
def y_M_standing : MethodName := ⟨R_M, "standing", "(II)I"⟩
theorem cd_M_standing : Cond.code y_M_standing b_M_standing 8 (some .int) ∈ TB := tb_t 460 (by decide +kernel) (by decide +kernel)
abbrev b_M_settle : ByteArray := prog_7_method_18_code
def y_M_settle : MethodName := ⟨R_M, "settle", "(IIII)I"⟩
theorem cd_M_settle : Cond.code y_M_settle b_M_settle 11 (some .int) ∈ TB := tb_t 464 (by decide +kernel) (by decide +kernel)
abbrev b_M_known : ByteArray := prog_7_method_19_code
def y_M_known : MethodName := ⟨R_M, "known", "(IIIJJ)J"⟩
theorem cd_M_known : Cond.code y_M_known b_M_known 11 (some .long) ∈ TB := tb_t 468 (by decide +kernel) (by decide +kernel)
abbrev b_M_stands : ByteArray := prog_7_method_8_code
def y_M_stands : MethodName := ⟨R_M, "stands", "(IIJ)Z"⟩
theorem cd_M_stands : Cond.code y_M_stands b_M_stands 7 (some .boolean) ∈ TB := tb_t 473 (by decide +kernel) (by decide +kernel)
abbrev b_M_isKnown : ByteArray := prog_7_method_7_code
def y_M_isKnown : MethodName := ⟨R_M, "isKnown", "(IIJ)Z"⟩
theorem cd_M_isKnown : Cond.code y_M_isKnown b_M_isKnown 5 (some .boolean) ∈ TB := tb_t 477 (by decide +kernel) (by decide +kernel)
abbrev b_M_equal : ByteArray := prog_7_method_20_code
def y_M_equal : MethodName := ⟨R_M, "equal", "(II)Z"⟩
theorem cd_M_equal : Cond.code y_M_equal b_M_equal 5 (some .boolean) ∈ TB := tb_t 481 (by decide +kernel) (by decide +kernel)
abbrev b_M_find : ByteArray := prog_7_method_21_code
def y_M_find : MethodName := ⟨R_M, "find", "(IIJI)I"⟩
theorem cd_M_find : Cond.code y_M_find b_M_find 9 (some .int) ∈ TB := tb_t 485 (by decide +kernel) (by decide +kernel)
abbrev b_M_counts : ByteArray := prog_7_method_22_code
def y_M_counts : MethodName := ⟨R_M, "counts", "(I)I"⟩
theorem cd_M_counts : Cond.code y_M_counts b_M_counts 4 (some .int) ∈ TB := tb_t 489 (by decide +kernel) (by decide +kernel)
abbrev b_M_batch : ByteArray := prog_7_method_23_code
def y_M_batch : MethodName := ⟨R_M, "batch", "(I)I"⟩
theorem cd_M_batch : Cond.code y_M_batch b_M_batch 2 (some .int) ∈ TB := tb_t 493 (by decide +kernel) (by decide +kernel)
abbrev b_M_endBatch : ByteArray := prog_7_method_24_code
def y_M_endBatch : MethodName := ⟨R_M, "endBatch", "(I)Z"⟩
theorem cd_M_endBatch : Cond.code y_M_endBatch b_M_endBatch 4 (some .boolean) ∈ TB := tb_t 497 (by decide +kernel) (by decide +kernel)
abbrev b_M_play : ByteArray := prog_7_method_26_code
def y_M_play : MethodName := ⟨R_M, "play", "(JI)I"⟩
theorem cd_M_play : Cond.code y_M_play b_M_play 11 (some .int) ∈ TB := tb_t 501 (by decide +kernel) (by decide +kernel)
abbrev b_M_draw : ByteArray := prog_7_method_25_code
def y_M_draw : MethodName := ⟨R_M, "draw", "(I)I"⟩
theorem cd_M_draw : Cond.code y_M_draw b_M_draw 2 (some .int) ∈ TB := tb_t 505 (by decide +kernel) (by decide +kernel)
theorem im_y_T_init : Cond.instanceMethod y_T_init ∈ TB := tb_t 12 (by decide +kernel) (by decide +kernel)
theorem im_objectInit : Cond.instanceMethod objectInit ∈ TB := tb_t 15 (by decide +kernel) (by decide +kernel)
theorem im_y_A_init : Cond.instanceMethod y_A_init ∈ TB := tb_t 22 (by decide +kernel) (by decide +kernel)
theorem im_y_S_init : Cond.instanceMethod y_S_init ∈ TB := tb_t 58 (by decide +kernel) (by decide +kernel)
theorem im_y_T_desk : Cond.instanceMethod y_T_desk ∈ TB := tb_t 86 (by decide +kernel) (by decide +kernel)
theorem im_y_K_init : Cond.instanceMethod y_K_init ∈ TB := tb_t 91 (by decide +kernel) (by decide +kernel)
theorem im_y_T_tell : Cond.instanceMethod y_T_tell ∈ TB := tb_t 118 (by decide +kernel) (by decide +kernel)
theorem im_y_T_deskAt : Cond.instanceMethod y_T_deskAt ∈ TB := tb_t 123 (by decide +kernel) (by decide +kernel)
theorem im_y_S_clear : Cond.instanceMethod y_S_clear ∈ TB := tb_t 131 (by decide +kernel) (by decide +kernel)
theorem im_y_T_tellReplacing : Cond.instanceMethod y_T_tellReplacing ∈ TB := tb_t 139 (by decide +kernel) (by decide +kernel)
theorem im_y_K_nextNumber : Cond.instanceMethod y_K_nextNumber ∈ TB := tb_t 143 (by decide +kernel) (by decide +kernel)
theorem im_y_K_nextTime : Cond.instanceMethod y_K_nextTime ∈ TB := tb_t 147 (by decide +kernel) (by decide +kernel)
theorem im_y_A_append : Cond.instanceMethod y_A_append ∈ TB := tb_t 151 (by decide +kernel) (by decide +kernel)
theorem im_y_S_has : Cond.instanceMethod y_S_has ∈ TB := tb_t 155 (by decide +kernel) (by decide +kernel)
theorem im_y_K_hear : Cond.instanceMethod y_K_hear ∈ TB := tb_t 165 (by decide +kernel) (by decide +kernel)
theorem im_y_S_add : Cond.instanceMethod y_S_add ∈ TB := tb_t 169 (by decide +kernel) (by decide +kernel)
theorem im_y_T_correct : Cond.instanceMethod y_T_correct ∈ TB := tb_t 172 (by decide +kernel) (by decide +kernel)
theorem im_y_A_withNumber : Cond.instanceMethod y_A_withNumber ∈ TB := tb_t 177 (by decide +kernel) (by decide +kernel)
theorem im_y_A_standsAmong : Cond.instanceMethod y_A_standsAmong ∈ TB := tb_t 181 (by decide +kernel) (by decide +kernel)
theorem im_y_T_join : Cond.instanceMethod y_T_join ∈ TB := tb_t 185 (by decide +kernel) (by decide +kernel)
theorem im_y_T_joined : Cond.instanceMethod y_T_joined ∈ TB := tb_t 190 (by decide +kernel) (by decide +kernel)
theorem im_y_K_learnFrom : Cond.instanceMethod y_K_learnFrom ∈ TB := tb_t 194 (by decide +kernel) (by decide +kernel)
theorem im_y_S_addAll : Cond.instanceMethod y_S_addAll ∈ TB := tb_t 198 (by decide +kernel) (by decide +kernel)
theorem im_y_A_countConflicts : Cond.instanceMethod y_A_countConflicts ∈ TB := tb_t 205 (by decide +kernel) (by decide +kernel)
theorem im_y_A_isFirstOfSpot : Cond.instanceMethod y_A_isFirstOfSpot ∈ TB := tb_t 209 (by decide +kernel) (by decide +kernel)
theorem im_y_A_isConflictFrom : Cond.instanceMethod y_A_isConflictFrom ∈ TB := tb_t 213 (by decide +kernel) (by decide +kernel)
theorem im_y_T_known : Cond.instanceMethod y_T_known ∈ TB := tb_t 217 (by decide +kernel) (by decide +kernel)
theorem im_y_A_pickToldBy : Cond.instanceMethod y_A_pickToldBy ∈ TB := tb_t 223 (by decide +kernel) (by decide +kernel)
theorem im_y_A_latestStanding : Cond.instanceMethod y_A_latestStanding ∈ TB := tb_t 229 (by decide +kernel) (by decide +kernel)
theorem im_y_A_isLater : Cond.instanceMethod y_A_isLater ∈ TB := tb_t 237 (by decide +kernel) (by decide +kernel)
theorem im_y_T_conflict : Cond.instanceMethod y_T_conflict ∈ TB := tb_t 240 (by decide +kernel) (by decide +kernel)
theorem im_y_A_conflictSpot : Cond.instanceMethod y_A_conflictSpot ∈ TB := tb_t 245 (by decide +kernel) (by decide +kernel)
theorem im_y_A_pickStanding : Cond.instanceMethod y_A_pickStanding ∈ TB := tb_t 249 (by decide +kernel) (by decide +kernel)
theorem im_y_S_size : Cond.instanceMethod y_S_size ∈ TB := tb_t 260 (by decide +kernel) (by decide +kernel)
theorem im_y_A_inOrder : Cond.instanceMethod y_A_inOrder ∈ TB := tb_t 270 (by decide +kernel) (by decide +kernel)
theorem im_y_T_numberOrNone : Cond.instanceMethod y_T_numberOrNone ∈ TB := tb_t 274 (by decide +kernel) (by decide +kernel)
theorem im_y_T_settle : Cond.instanceMethod y_T_settle ∈ TB := tb_t 277 (by decide +kernel) (by decide +kernel)
theorem im_y_T_equal : Cond.instanceMethod y_T_equal ∈ TB := tb_t 282 (by decide +kernel) (by decide +kernel)
theorem im_y_S_isSameAs : Cond.instanceMethod y_S_isSameAs ∈ TB := tb_t 287 (by decide +kernel) (by decide +kernel)
theorem im_y_T_batch : Cond.instanceMethod y_T_batch ∈ TB := tb_t 290 (by decide +kernel) (by decide +kernel)
theorem im_y_T_endBatch : Cond.instanceMethod y_T_endBatch ∈ TB := tb_t 294 (by decide +kernel) (by decide +kernel)
theorem im_y_K_learnPending : Cond.instanceMethod y_K_learnPending ∈ TB := tb_t 299 (by decide +kernel) (by decide +kernel)
theorem im_y_T_play : Cond.instanceMethod y_T_play ∈ TB := tb_t 303 (by decide +kernel) (by decide +kernel)
theorem im_y_W_init : Cond.instanceMethod y_W_init ∈ TB := tb_t 309 (by decide +kernel) (by decide +kernel)
theorem im_y_T_playTurn : Cond.instanceMethod y_T_playTurn ∈ TB := tb_t 318 (by decide +kernel) (by decide +kernel)
theorem im_y_W_below : Cond.instanceMethod y_W_below ∈ TB := tb_t 322 (by decide +kernel) (by decide +kernel)
theorem im_y_T_counts : Cond.instanceMethod y_T_counts ∈ TB := tb_t 328 (by decide +kernel) (by decide +kernel)
theorem im_y_T_find : Cond.instanceMethod y_T_find ∈ TB := tb_t 332 (by decide +kernel) (by decide +kernel)
theorem im_y_A_pickEqual : Cond.instanceMethod y_A_pickEqual ∈ TB := tb_t 337 (by decide +kernel) (by decide +kernel)
theorem im_y_M_init : Cond.instanceMethod y_M_init ∈ TB := tb_t 344 (by decide +kernel) (by decide +kernel)
theorem im_y_M_desk : Cond.instanceMethod y_M_desk ∈ TB := tb_t 405 (by decide +kernel) (by decide +kernel)
theorem im_y_M_tell : Cond.instanceMethod y_M_tell ∈ TB := tb_t 409 (by decide +kernel) (by decide +kernel)
theorem im_y_M_isDesk : Cond.instanceMethod y_M_isDesk ∈ TB := tb_t 414 (by decide +kernel) (by decide +kernel)
theorem im_y_M_add : Cond.instanceMethod y_M_add ∈ TB := tb_t 419 (by decide +kernel) (by decide +kernel)
theorem im_y_M_correct : Cond.instanceMethod y_M_correct ∈ TB := tb_t 422 (by decide +kernel) (by decide +kernel)
theorem im_y_M_place : Cond.instanceMethod y_M_place ∈ TB := tb_t 427 (by decide +kernel) (by decide +kernel)
theorem im_y_M_look : Cond.instanceMethod y_M_look ∈ TB := tb_t 431 (by decide +kernel) (by decide +kernel)
theorem im_y_M_join : Cond.instanceMethod y_M_join ∈ TB := tb_t 434 (by decide +kernel) (by decide +kernel)
theorem im_y_M_conflicts : Cond.instanceMethod y_M_conflicts ∈ TB := tb_t 439 (by decide +kernel) (by decide +kernel)
theorem im_y_M_isFirstOfConflict : Cond.instanceMethod y_M_isFirstOfConflict ∈ TB := tb_t 443 (by decide +kernel) (by decide +kernel)
theorem im_y_M_areOne : Cond.instanceMethod y_M_areOne ∈ TB := tb_t 447 (by decide +kernel) (by decide +kernel)
theorem im_y_M_conflict : Cond.instanceMethod y_M_conflict ∈ TB := tb_t 450 (by decide +kernel) (by decide +kernel)
theorem im_y_M_isBefore : Cond.instanceMethod y_M_isBefore ∈ TB := tb_t 455 (by decide +kernel) (by decide +kernel)
theorem im_y_M_standing : Cond.instanceMethod y_M_standing ∈ TB := tb_t 459 (by decide +kernel) (by decide +kernel)
theorem im_y_M_settle : Cond.instanceMethod y_M_settle ∈ TB := tb_t 462 (by decide +kernel) (by decide +kernel)
theorem im_y_M_known : Cond.instanceMethod y_M_known ∈ TB := tb_t 466 (by decide +kernel) (by decide +kernel)
theorem im_y_M_stands : Cond.instanceMethod y_M_stands ∈ TB := tb_t 472 (by decide +kernel) (by decide +kernel)
theorem im_y_M_isKnown : Cond.instanceMethod y_M_isKnown ∈ TB := tb_t 476 (by decide +kernel) (by decide +kernel)
theorem im_y_M_equal : Cond.instanceMethod y_M_equal ∈ TB := tb_t 479 (by decide +kernel) (by decide +kernel)
theorem im_y_M_find : Cond.instanceMethod y_M_find ∈ TB := tb_t 483 (by decide +kernel) (by decide +kernel)
theorem im_y_M_counts : Cond.instanceMethod y_M_counts ∈ TB := tb_t 487 (by decide +kernel) (by decide +kernel)
theorem im_y_M_batch : Cond.instanceMethod y_M_batch ∈ TB := tb_t 491 (by decide +kernel) (by decide +kernel)
theorem im_y_M_endBatch : Cond.instanceMethod y_M_endBatch ∈ TB := tb_t 495 (by decide +kernel) (by decide +kernel)
theorem im_y_M_play : Cond.instanceMethod y_M_play ∈ TB := tb_t 499 (by decide +kernel) (by decide +kernel)
theorem im_y_M_draw : Cond.instanceMethod y_M_draw ∈ TB := tb_t 504 (by decide +kernel) (by decide +kernel)
theorem st_y_T_areThingAndKind : Cond.static y_T_areThingAndKind ∈ TB := tb_t 126 (by decide +kernel) (by decide +kernel)
theorem st_y_T_spotOf : Cond.static y_T_spotOf ∈ TB := tb_t 134 (by decide +kernel) (by decide +kernel)
theorem st_y_S_isPlace : Cond.static y_S_isPlace ∈ TB := tb_t 158 (by decide +kernel) (by decide +kernel)
theorem st_y_A_insertByKey : Cond.static y_A_insertByKey ∈ TB := tb_t 161 (by decide +kernel) (by decide +kernel)
theorem mx_static : Cond.static Lib.Math.max.name ∈ TB := tb_t 201 (by decide +kernel) (by decide +kernel)
theorem st_y_MM_max : Cond.static y_MM_max ∈ TB := tb_t 201 (by decide +kernel) (by decide +kernel)
theorem st_y_T_dayOf : Cond.static y_T_dayOf ∈ TB := tb_t 233 (by decide +kernel) (by decide +kernel)
theorem st_y_T_thingOf : Cond.static y_T_thingOf ∈ TB := tb_t 252 (by decide +kernel) (by decide +kernel)
theorem st_y_T_kindOf : Cond.static y_T_kindOf ∈ TB := tb_t 255 (by decide +kernel) (by decide +kernel)
theorem st_y_J_bitCount : Cond.static y_J_bitCount ∈ TB := tb_t 263 (by decide +kernel) (by decide +kernel)
theorem sl_y_T_desk : Cond.selects (y_T_desk).cls y_T_desk y_T_desk ∈ TB := tb_t 87 (by decide +kernel) (by decide +kernel)
theorem sl_y_T_tell : Cond.selects (y_T_tell).cls y_T_tell y_T_tell ∈ TB := tb_t 119 (by decide +kernel) (by decide +kernel)
theorem sl_y_T_correct : Cond.selects (y_T_correct).cls y_T_correct y_T_correct ∈ TB := tb_t 173 (by decide +kernel) (by decide +kernel)
theorem sl_y_T_join : Cond.selects (y_T_join).cls y_T_join y_T_join ∈ TB := tb_t 186 (by decide +kernel) (by decide +kernel)
theorem sl_y_T_known : Cond.selects (y_T_known).cls y_T_known y_T_known ∈ TB := tb_t 218 (by decide +kernel) (by decide +kernel)
theorem sl_y_T_conflict : Cond.selects (y_T_conflict).cls y_T_conflict y_T_conflict ∈ TB := tb_t 241 (by decide +kernel) (by decide +kernel)
theorem sl_y_T_settle : Cond.selects (y_T_settle).cls y_T_settle y_T_settle ∈ TB := tb_t 278 (by decide +kernel) (by decide +kernel)
theorem sl_y_T_equal : Cond.selects (y_T_equal).cls y_T_equal y_T_equal ∈ TB := tb_t 283 (by decide +kernel) (by decide +kernel)
theorem sl_y_T_batch : Cond.selects (y_T_batch).cls y_T_batch y_T_batch ∈ TB := tb_t 291 (by decide +kernel) (by decide +kernel)
theorem sl_y_T_endBatch : Cond.selects (y_T_endBatch).cls y_T_endBatch y_T_endBatch ∈ TB := tb_t 295 (by decide +kernel) (by decide +kernel)
theorem sl_y_T_play : Cond.selects (y_T_play).cls y_T_play y_T_play ∈ TB := tb_t 304 (by decide +kernel) (by decide +kernel)
theorem sl_y_T_counts : Cond.selects (y_T_counts).cls y_T_counts y_T_counts ∈ TB := tb_t 329 (by decide +kernel) (by decide +kernel)
theorem sl_y_T_find : Cond.selects (y_T_find).cls y_T_find y_T_find ∈ TB := tb_t 333 (by decide +kernel) (by decide +kernel)
theorem sl_y_M_desk : Cond.selects (y_M_desk).cls y_M_desk y_M_desk ∈ TB := tb_t 406 (by decide +kernel) (by decide +kernel)
theorem sl_y_M_tell : Cond.selects (y_M_tell).cls y_M_tell y_M_tell ∈ TB := tb_t 410 (by decide +kernel) (by decide +kernel)
theorem sl_y_M_correct : Cond.selects (y_M_correct).cls y_M_correct y_M_correct ∈ TB := tb_t 423 (by decide +kernel) (by decide +kernel)
theorem sl_y_M_join : Cond.selects (y_M_join).cls y_M_join y_M_join ∈ TB := tb_t 435 (by decide +kernel) (by decide +kernel)
theorem sl_y_M_conflict : Cond.selects (y_M_conflict).cls y_M_conflict y_M_conflict ∈ TB := tb_t 451 (by decide +kernel) (by decide +kernel)
theorem sl_y_M_settle : Cond.selects (y_M_settle).cls y_M_settle y_M_settle ∈ TB := tb_t 463 (by decide +kernel) (by decide +kernel)
theorem sl_y_M_known : Cond.selects (y_M_known).cls y_M_known y_M_known ∈ TB := tb_t 467 (by decide +kernel) (by decide +kernel)
theorem sl_y_M_equal : Cond.selects (y_M_equal).cls y_M_equal y_M_equal ∈ TB := tb_t 480 (by decide +kernel) (by decide +kernel)
theorem sl_y_M_find : Cond.selects (y_M_find).cls y_M_find y_M_find ∈ TB := tb_t 484 (by decide +kernel) (by decide +kernel)
theorem sl_y_M_counts : Cond.selects (y_M_counts).cls y_M_counts y_M_counts ∈ TB := tb_t 488 (by decide +kernel) (by decide +kernel)
theorem sl_y_M_batch : Cond.selects (y_M_batch).cls y_M_batch y_M_batch ∈ TB := tb_t 492 (by decide +kernel) (by decide +kernel)
theorem sl_y_M_endBatch : Cond.selects (y_M_endBatch).cls y_M_endBatch y_M_endBatch ∈ TB := tb_t 496 (by decide +kernel) (by decide +kernel)
theorem sl_y_M_play : Cond.selects (y_M_play).cls y_M_play y_M_play ∈ TB := tb_t 500 (by decide +kernel) (by decide +kernel)
theorem sl_y_T_deskAt : Cond.selects (y_T_deskAt).cls y_T_deskAt y_T_deskAt ∈ TB := tb_p 0 (by decide +kernel) (by decide +kernel)
theorem sl_y_S_clear : Cond.selects (y_S_clear).cls y_S_clear y_S_clear ∈ TB := tb_p 1 (by decide +kernel) (by decide +kernel)
theorem sl_y_T_tellReplacing : Cond.selects (y_T_tellReplacing).cls y_T_tellReplacing y_T_tellReplacing ∈ TB := tb_p 2 (by decide +kernel) (by decide +kernel)
theorem sl_y_K_nextNumber : Cond.selects (y_K_nextNumber).cls y_K_nextNumber y_K_nextNumber ∈ TB := tb_p 3 (by decide +kernel) (by decide +kernel)
theorem sl_y_K_nextTime : Cond.selects (y_K_nextTime).cls y_K_nextTime y_K_nextTime ∈ TB := tb_p 4 (by decide +kernel) (by decide +kernel)
theorem sl_y_A_append : Cond.selects (y_A_append).cls y_A_append y_A_append ∈ TB := tb_p 5 (by decide +kernel) (by decide +kernel)
theorem sl_y_S_has : Cond.selects (y_S_has).cls y_S_has y_S_has ∈ TB := tb_p 6 (by decide +kernel) (by decide +kernel)
theorem sl_y_K_hear : Cond.selects (y_K_hear).cls y_K_hear y_K_hear ∈ TB := tb_p 7 (by decide +kernel) (by decide +kernel)
theorem sl_y_S_add : Cond.selects (y_S_add).cls y_S_add y_S_add ∈ TB := tb_p 8 (by decide +kernel) (by decide +kernel)
theorem sl_y_A_withNumber : Cond.selects (y_A_withNumber).cls y_A_withNumber y_A_withNumber ∈ TB := tb_p 9 (by decide +kernel) (by decide +kernel)
theorem sl_y_A_standsAmong : Cond.selects (y_A_standsAmong).cls y_A_standsAmong y_A_standsAmong ∈ TB := tb_p 10 (by decide +kernel) (by decide +kernel)
theorem sl_y_T_joined : Cond.selects (y_T_joined).cls y_T_joined y_T_joined ∈ TB := tb_p 11 (by decide +kernel) (by decide +kernel)
theorem sl_y_K_learnFrom : Cond.selects (y_K_learnFrom).cls y_K_learnFrom y_K_learnFrom ∈ TB := tb_p 12 (by decide +kernel) (by decide +kernel)
theorem sl_y_S_addAll : Cond.selects (y_S_addAll).cls y_S_addAll y_S_addAll ∈ TB := tb_p 13 (by decide +kernel) (by decide +kernel)
theorem sl_y_A_countConflicts : Cond.selects (y_A_countConflicts).cls y_A_countConflicts y_A_countConflicts ∈ TB := tb_p 14 (by decide +kernel) (by decide +kernel)
theorem sl_y_A_isFirstOfSpot : Cond.selects (y_A_isFirstOfSpot).cls y_A_isFirstOfSpot y_A_isFirstOfSpot ∈ TB := tb_p 15 (by decide +kernel) (by decide +kernel)
theorem sl_y_A_isConflictFrom : Cond.selects (y_A_isConflictFrom).cls y_A_isConflictFrom y_A_isConflictFrom ∈ TB := tb_p 16 (by decide +kernel) (by decide +kernel)
theorem sl_y_A_pickToldBy : Cond.selects (y_A_pickToldBy).cls y_A_pickToldBy y_A_pickToldBy ∈ TB := tb_p 17 (by decide +kernel) (by decide +kernel)
theorem sl_y_A_latestStanding : Cond.selects (y_A_latestStanding).cls y_A_latestStanding y_A_latestStanding ∈ TB := tb_p 18 (by decide +kernel) (by decide +kernel)
theorem sl_y_A_isLater : Cond.selects (y_A_isLater).cls y_A_isLater y_A_isLater ∈ TB := tb_p 19 (by decide +kernel) (by decide +kernel)
theorem sl_y_A_conflictSpot : Cond.selects (y_A_conflictSpot).cls y_A_conflictSpot y_A_conflictSpot ∈ TB := tb_p 20 (by decide +kernel) (by decide +kernel)
theorem sl_y_A_pickStanding : Cond.selects (y_A_pickStanding).cls y_A_pickStanding y_A_pickStanding ∈ TB := tb_p 21 (by decide +kernel) (by decide +kernel)
theorem sl_y_S_size : Cond.selects (y_S_size).cls y_S_size y_S_size ∈ TB := tb_p 22 (by decide +kernel) (by decide +kernel)
theorem sl_y_A_inOrder : Cond.selects (y_A_inOrder).cls y_A_inOrder y_A_inOrder ∈ TB := tb_p 23 (by decide +kernel) (by decide +kernel)
theorem sl_y_T_numberOrNone : Cond.selects (y_T_numberOrNone).cls y_T_numberOrNone y_T_numberOrNone ∈ TB := tb_p 24 (by decide +kernel) (by decide +kernel)
theorem sl_y_S_isSameAs : Cond.selects (y_S_isSameAs).cls y_S_isSameAs y_S_isSameAs ∈ TB := tb_p 25 (by decide +kernel) (by decide +kernel)
theorem sl_y_K_learnPending : Cond.selects (y_K_learnPending).cls y_K_learnPending y_K_learnPending ∈ TB := tb_p 26 (by decide +kernel) (by decide +kernel)
theorem sl_y_T_playTurn : Cond.selects (y_T_playTurn).cls y_T_playTurn y_T_playTurn ∈ TB := tb_p 27 (by decide +kernel) (by decide +kernel)
theorem sl_y_W_below : Cond.selects (y_W_below).cls y_W_below y_W_below ∈ TB := tb_p 28 (by decide +kernel) (by decide +kernel)
theorem sl_y_A_pickEqual : Cond.selects (y_A_pickEqual).cls y_A_pickEqual y_A_pickEqual ∈ TB := tb_p 29 (by decide +kernel) (by decide +kernel)
theorem sl_y_M_isDesk : Cond.selects (y_M_isDesk).cls y_M_isDesk y_M_isDesk ∈ TB := tb_p 30 (by decide +kernel) (by decide +kernel)
theorem sl_y_M_add : Cond.selects (y_M_add).cls y_M_add y_M_add ∈ TB := tb_p 31 (by decide +kernel) (by decide +kernel)
theorem sl_y_M_place : Cond.selects (y_M_place).cls y_M_place y_M_place ∈ TB := tb_p 32 (by decide +kernel) (by decide +kernel)
theorem sl_y_M_look : Cond.selects (y_M_look).cls y_M_look y_M_look ∈ TB := tb_p 33 (by decide +kernel) (by decide +kernel)
theorem sl_y_M_conflicts : Cond.selects (y_M_conflicts).cls y_M_conflicts y_M_conflicts ∈ TB := tb_p 34 (by decide +kernel) (by decide +kernel)
theorem sl_y_M_isFirstOfConflict : Cond.selects (y_M_isFirstOfConflict).cls y_M_isFirstOfConflict y_M_isFirstOfConflict ∈ TB := tb_p 35 (by decide +kernel) (by decide +kernel)
theorem sl_y_M_areOne : Cond.selects (y_M_areOne).cls y_M_areOne y_M_areOne ∈ TB := tb_p 36 (by decide +kernel) (by decide +kernel)
theorem sl_y_M_isBefore : Cond.selects (y_M_isBefore).cls y_M_isBefore y_M_isBefore ∈ TB := tb_p 37 (by decide +kernel) (by decide +kernel)
theorem sl_y_M_standing : Cond.selects (y_M_standing).cls y_M_standing y_M_standing ∈ TB := tb_p 38 (by decide +kernel) (by decide +kernel)
theorem sl_y_M_stands : Cond.selects (y_M_stands).cls y_M_stands y_M_stands ∈ TB := tb_p 39 (by decide +kernel) (by decide +kernel)
theorem sl_y_M_isKnown : Cond.selects (y_M_isKnown).cls y_M_isKnown y_M_isKnown ∈ TB := tb_p 40 (by decide +kernel) (by decide +kernel)
theorem sl_y_M_draw : Cond.selects (y_M_draw).cls y_M_draw y_M_draw ∈ TB := tb_p 41 (by decide +kernel) (by decide +kernel)
theorem ini_L : Cond.initialized R_L ∈ TB := tb_t 0 (by decide +kernel) (by decide +kernel)
theorem ini_T : Cond.initialized R_T ∈ TB := tb_t 1 (by decide +kernel) (by decide +kernel)
theorem ini_A : Cond.initialized R_A ∈ TB := tb_t 2 (by decide +kernel) (by decide +kernel)
theorem ini_S : Cond.initialized R_S ∈ TB := tb_t 3 (by decide +kernel) (by decide +kernel)
theorem ini_M : Cond.initialized R_M ∈ TB := tb_t 4 (by decide +kernel) (by decide +kernel)
theorem ini_K : Cond.initialized R_K ∈ TB := tb_t 5 (by decide +kernel) (by decide +kernel)
theorem mx_init : Cond.initialized "java/lang/Math" ∈ TB := tb_t 6 (by decide +kernel) (by decide +kernel)
theorem ini_J : Cond.initialized R_J ∈ TB := tb_t 7 (by decide +kernel) (by decide +kernel)
theorem ini_W : Cond.initialized R_W ∈ TB := tb_t 8 (by decide +kernel) (by decide +kernel)
theorem mx_code : Cond.code Lib.Math.max.name Lib.Math.max.code 2 (some .int) ∈ TB := tb_t 202 (by decide +kernel) (by decide +kernel)
theorem oi_code : Cond.code objectInit ⟨#[0xb1]⟩ 1 none ∈ TB := tb_t 16 (by decide +kernel) (by decide +kernel)
theorem ins_T : Cond.instantiable R_T 6 ∈ TB := tb_t 10 (by decide +kernel) (by decide +kernel)
theorem ins_A : Cond.instantiable R_A 8 ∈ TB := tb_t 20 (by decide +kernel) (by decide +kernel)
theorem ins_S : Cond.instantiable R_S 1 ∈ TB := tb_t 56 (by decide +kernel) (by decide +kernel)
theorem ins_K : Cond.instantiable R_K 6 ∈ TB := tb_t 89 (by decide +kernel) (by decide +kernel)
theorem ins_W : Cond.instantiable R_W 1 ∈ TB := tb_t 307 (by decide +kernel) (by decide +kernel)
theorem ins_M : Cond.instantiable R_M 18 ∈ TB := tb_t 342 (by decide +kernel) (by decide +kernel)
theorem arr_desk : Cond.arrayOver (.object R_K) ∈ lw_tbl := List.mem_append_right _ (List.mem_of_getElem? (i := 18) (by decide +kernel))
theorem arr_int : Cond.arrayClass .int ∈ TB := tb_t 53 (by decide +kernel) (by decide +kernel)
theorem arr_long : Cond.arrayClass .long ∈ TB := tb_t 54 (by decide +kernel) (by decide +kernel)
theorem arr_boolean : Cond.arrayClass .boolean ∈ TB := tb_t 403 (by decide +kernel) (by decide +kernel)
theorem lk_A_9 : Cond.fieldLink R_A 9 "ToldFacts$Facts" "numbers" "[I" ∈ TB := tb_t 25 (by decide +kernel) (by decide +kernel)
theorem lk_T_158 : Cond.fieldLinkNest R_T 158 "ToldFacts$Facts" "numbers" "[I" "ToldFacts" ∈ NW := nw_t 26 (by decide +kernel) (by decide +kernel)
theorem lk_A_15 : Cond.fieldLink R_A 15 "ToldFacts$Facts" "spots" "[I" ∈ TB := tb_t 27 (by decide +kernel) (by decide +kernel)
theorem lk_T_75 : Cond.fieldLinkNest R_T 75 "ToldFacts$Facts" "spots" "[I" "ToldFacts" ∈ NW := nw_t 28 (by decide +kernel) (by decide +kernel)
theorem lk_A_18 : Cond.fieldLink R_A 18 "ToldFacts$Facts" "values" "[J" ∈ TB := tb_t 29 (by decide +kernel) (by decide +kernel)
theorem lk_T_96 : Cond.fieldLinkNest R_T 96 "ToldFacts$Facts" "values" "[J" "ToldFacts" ∈ NW := nw_t 30 (by decide +kernel) (by decide +kernel)
theorem lk_A_22 : Cond.fieldLink R_A 22 "ToldFacts$Facts" "times" "[I" ∈ TB := tb_t 31 (by decide +kernel) (by decide +kernel)
theorem lk_A_27 : Cond.fieldLink R_A 27 "ToldFacts$Facts" "replacers" "[J" ∈ TB := tb_t 32 (by decide +kernel) (by decide +kernel)
theorem lk_A_30 : Cond.fieldLink R_A 30 "ToldFacts$Facts" "byNumber" "[I" ∈ TB := tb_t 33 (by decide +kernel) (by decide +kernel)
theorem lk_A_33 : Cond.fieldLink R_A 33 "ToldFacts$Facts" "bySpot" "[I" ∈ TB := tb_t 34 (by decide +kernel) (by decide +kernel)
theorem lk_A_36 : Cond.fieldLink R_A 36 "ToldFacts$Facts" "count" "I" ∈ TB := tb_t 35 (by decide +kernel) (by decide +kernel)
theorem lk_S_11 : Cond.fieldLink R_S 11 "ToldFacts$FactSet" "words" "[J" ∈ TB := tb_t 61 (by decide +kernel) (by decide +kernel)
theorem lk_A_48 : Cond.fieldLinkNest R_A 48 "ToldFacts$FactSet" "words" "[J" "ToldFacts" ∈ NW := nw_t 62 (by decide +kernel) (by decide +kernel)
theorem lk_T_11 : Cond.fieldLink R_T 11 "ToldFacts" "desks" "[LToldFacts$Desk;" ∈ TB := tb_t 66 (by decide +kernel) (by decide +kernel)
theorem lk_T_15 : Cond.fieldLink R_T 15 "ToldFacts" "batchDesks" "[I" ∈ TB := tb_t 67 (by decide +kernel) (by decide +kernel)
theorem lk_T_22 : Cond.fieldLink R_T 22 "ToldFacts" "facts" "LToldFacts$Facts;" ∈ TB := tb_t 68 (by decide +kernel) (by decide +kernel)
theorem lk_T_29 : Cond.fieldLink R_T 29 "ToldFacts" "picked" "LToldFacts$FactSet;" ∈ TB := tb_t 69 (by decide +kernel) (by decide +kernel)
theorem lk_T_33 : Cond.fieldLink R_T 33 "ToldFacts" "deskCount" "I" ∈ TB := tb_t 70 (by decide +kernel) (by decide +kernel)
theorem lk_T_136 : Cond.fieldLink R_T 136 "ToldFacts" "batchCount" "I" ∈ TB := tb_t 71 (by decide +kernel) (by decide +kernel)
theorem lk_K_25 : Cond.fieldLink R_K 25 "ToldFacts$Desk" "number" "I" ∈ TB := tb_t 96 (by decide +kernel) (by decide +kernel)
theorem lk_K_12 : Cond.fieldLink R_K 12 "ToldFacts$Desk" "knows" "LToldFacts$FactSet;" ∈ TB := tb_t 97 (by decide +kernel) (by decide +kernel)
theorem lk_T_65 : Cond.fieldLinkNest R_T 65 "ToldFacts$Desk" "knows" "LToldFacts$FactSet;" "ToldFacts" ∈ NW := nw_t 98 (by decide +kernel) (by decide +kernel)
theorem lk_K_18 : Cond.fieldLink R_K 18 "ToldFacts$Desk" "pending" "LToldFacts$FactSet;" ∈ TB := tb_t 99 (by decide +kernel) (by decide +kernel)
theorem lk_K_31 : Cond.fieldLink R_K 31 "ToldFacts$Desk" "clock" "I" ∈ TB := tb_t 100 (by decide +kernel) (by decide +kernel)
theorem lk_K_28 : Cond.fieldLink R_K 28 "ToldFacts$Desk" "toldCount" "I" ∈ TB := tb_t 101 (by decide +kernel) (by decide +kernel)
theorem lk_K_21 : Cond.fieldLink R_K 21 "ToldFacts$Desk" "openBatch" "I" ∈ TB := tb_t 102 (by decide +kernel) (by decide +kernel)
theorem lk_T_133 : Cond.fieldLinkNest R_T 133 "ToldFacts$Desk" "openBatch" "I" "ToldFacts" ∈ NW := nw_t 103 (by decide +kernel) (by decide +kernel)
theorem lk_W_7 : Cond.fieldLink R_W 7 "ToldFacts$Draw" "x" "J" ∈ TB := tb_t 312 (by decide +kernel) (by decide +kernel)
theorem lk_M_55 : Cond.fieldLink R_M 55 "ToldFactsModel" "desks" "I" ∈ TB := tb_t 348 (by decide +kernel) (by decide +kernel)
theorem lk_M_9 : Cond.fieldLink R_M 9 "ToldFactsModel" "clock" "[J" ∈ TB := tb_t 349 (by decide +kernel) (by decide +kernel)
theorem lk_M_13 : Cond.fieldLink R_M 13 "ToldFactsModel" "toldAt" "[I" ∈ TB := tb_t 350 (by decide +kernel) (by decide +kernel)
theorem lk_M_17 : Cond.fieldLink R_M 17 "ToldFactsModel" "open" "[I" ∈ TB := tb_t 351 (by decide +kernel) (by decide +kernel)
theorem lk_M_20 : Cond.fieldLink R_M 20 "ToldFactsModel" "number" "[I" ∈ TB := tb_t 352 (by decide +kernel) (by decide +kernel)
theorem lk_M_23 : Cond.fieldLink R_M 23 "ToldFactsModel" "thing" "[I" ∈ TB := tb_t 353 (by decide +kernel) (by decide +kernel)
theorem lk_M_26 : Cond.fieldLink R_M 26 "ToldFactsModel" "kind" "[I" ∈ TB := tb_t 354 (by decide +kernel) (by decide +kernel)
theorem lk_M_29 : Cond.fieldLink R_M 29 "ToldFactsModel" "day" "[J" ∈ TB := tb_t 355 (by decide +kernel) (by decide +kernel)
theorem lk_M_32 : Cond.fieldLink R_M 32 "ToldFactsModel" "value" "[J" ∈ TB := tb_t 356 (by decide +kernel) (by decide +kernel)
theorem lk_M_35 : Cond.fieldLink R_M 35 "ToldFactsModel" "time" "[J" ∈ TB := tb_t 357 (by decide +kernel) (by decide +kernel)
theorem lk_M_38 : Cond.fieldLink R_M 38 "ToldFactsModel" "batchOf" "[I" ∈ TB := tb_t 358 (by decide +kernel) (by decide +kernel)
theorem lk_M_42 : Cond.fieldLink R_M 42 "ToldFactsModel" "replaces" "[Z" ∈ TB := tb_t 359 (by decide +kernel) (by decide +kernel)
theorem lk_M_46 : Cond.fieldLink R_M 46 "ToldFactsModel" "knows" "[Z" ∈ TB := tb_t 360 (by decide +kernel) (by decide +kernel)
theorem lk_M_59 : Cond.fieldLink R_M 59 "ToldFactsModel" "facts" "I" ∈ TB := tb_t 361 (by decide +kernel) (by decide +kernel)
theorem lk_M_49 : Cond.fieldLink R_M 49 "ToldFactsModel" "batchDesk" "[I" ∈ TB := tb_t 362 (by decide +kernel) (by decide +kernel)
theorem lk_M_108 : Cond.fieldLink R_M 108 "ToldFactsModel" "batches" "I" ∈ TB := tb_t 363 (by decide +kernel) (by decide +kernel)
theorem lk_M_52 : Cond.fieldLink R_M 52 "ToldFactsModel" "stand" "[Z" ∈ TB := tb_t 364 (by decide +kernel) (by decide +kernel)
theorem lk_M_111 : Cond.fieldLink R_M 111 "ToldFactsModel" "drawn" "J" ∈ TB := tb_t 365 (by decide +kernel) (by decide +kernel)
theorem lk_T_48 : Cond.constantLong R_T 48 (100001) ∈ TB := tb_t 128 (by decide +kernel) (by decide +kernel)
theorem lk_T_185 : Cond.constant R_T 185 (100001) ∈ TB := tb_t 136 (by decide +kernel) (by decide +kernel)
theorem lk_T_86 : Cond.constantLong R_T 86 (-9223372036854775808) ∈ TB := tb_t 220 (by decide +kernel) (by decide +kernel)
theorem lk_A_66 : Cond.constant R_A 66 (100001) ∈ TB := tb_t 231 (by decide +kernel) (by decide +kernel)
theorem lk_J_314 : Cond.constantLong R_J 314 (6148914691236517205) ∈ TB := tb_t 265 (by decide +kernel) (by decide +kernel)
theorem lk_J_316 : Cond.constantLong R_J 316 (3689348814741910323) ∈ TB := tb_t 266 (by decide +kernel) (by decide +kernel)
theorem lk_J_318 : Cond.constantLong R_J 318 (1085102592571150095) ∈ TB := tb_t 267 (by decide +kernel) (by decide +kernel)
theorem lk_T_128 : Cond.constant R_T 128 (100000) ∈ TB := tb_t 280 (by decide +kernel) (by decide +kernel)
theorem lk_W_13 : Cond.constantLong R_W 13 (6364136223846793005) ∈ TB := tb_t 324 (by decide +kernel) (by decide +kernel)
theorem lk_W_15 : Cond.constantLong R_W 15 (1442695040888963407) ∈ TB := tb_t 325 (by decide +kernel) (by decide +kernel)
theorem lk_M_41 : Cond.constant R_M 41 (90000) ∈ TB := tb_t 347 (by decide +kernel) (by decide +kernel)
theorem lk_M_66 : Cond.constantLong R_M 66 (100000) ∈ TB := tb_t 416 (by decide +kernel) (by decide +kernel)
theorem lk_M_103 : Cond.constantLong R_M 103 (-9223372036854775808) ∈ TB := tb_t 469 (by decide +kernel) (by decide +kernel)
theorem lk_M_115 : Cond.constantLong R_M 115 (6364136223846793005) ∈ TB := tb_t 506 (by decide +kernel) (by decide +kernel)
theorem lk_M_117 : Cond.constantLong R_M 117 (1442695040888963407) ∈ TB := tb_t 507 (by decide +kernel) (by decide +kernel)
theorem lk_L_18 : Cond.constantLong R_L 18 (4294967295) ∈ TB := tb_t 511 (by decide +kernel) (by decide +kernel)
theorem lk_L_7 : Cond.classLink R_L 7 R_T ∈ TB := tb_t 9 (by decide +kernel) (by decide +kernel)
theorem lk_T_9 : Cond.classLink R_T 9 R_K ∈ TB := tb_t 17 (by decide +kernel) (by decide +kernel)
theorem lk_T_19 : Cond.classLink R_T 19 R_A ∈ TB := tb_t 19 (by decide +kernel) (by decide +kernel)
theorem lk_T_26 : Cond.classLink R_T 26 R_S ∈ TB := tb_t 55 (by decide +kernel) (by decide +kernel)
theorem lk_K_9 : Cond.classLink R_K 9 R_S ∈ TB := tb_t 94 (by decide +kernel) (by decide +kernel)
theorem lk_T_142 : Cond.classLink R_T 142 R_W ∈ TB := tb_t 306 (by decide +kernel) (by decide +kernel)
theorem lk_L_10 : Cond.classLink R_L 10 R_M ∈ TB := tb_t 341 (by decide +kernel) (by decide +kernel)
def Sv (own : String) (index : Nat) (y : MethodName) (b : ByteArray) (mL : Nat) (rt : Option FieldType) (n : Nat) : Prop := (Cond.methodLink own index y ∈ TB ∨ ∃ host, Cond.methodLinkNest own index y host ∈ NW) ∧ Cond.code y b mL rt ∈ TB ∧ Cond.initialized y.cls ∈ TB ∧ y.cls ≠ "java/lang/invoke/MethodHandle" ∧ y.cls ≠ "java/lang/invoke/VarHandle" ∧ (parseMethodDescriptor y.desc).map (fun d => d.parameters.length) = some n
theorem sv_L_9 : Sv R_L 9 y_T_init b_T_init 1 none 0 := ⟨Or.inl (tb_t 11 (by decide +kernel) (by decide +kernel)), cd_T_init, ini_T, by decide +kernel, by decide +kernel, by decide +kernel⟩
theorem lk_T_1 : Cond.methodLink R_T 1 objectInit ∈ TB := tb_t 14 (by decide +kernel) (by decide +kernel)
theorem sv_T_21 : Sv R_T 21 y_A_init b_A_init 1 none 0 := ⟨Or.inr ⟨"ToldFacts", nw_t 21 (by decide +kernel) (by decide +kernel)⟩, cd_A_init, ini_A, by decide +kernel, by decide +kernel, by decide +kernel⟩
theorem lk_A_3 : Cond.methodLink R_A 3 objectInit ∈ TB := tb_t 24 (by decide +kernel) (by decide +kernel)
theorem sv_T_28 : Sv R_T 28 y_S_init b_S_init 1 none 0 := ⟨Or.inr ⟨"ToldFacts", nw_t 57 (by decide +kernel) (by decide +kernel)⟩, cd_S_init, ini_S, by decide +kernel, by decide +kernel, by decide +kernel⟩
theorem lk_S_3 : Cond.methodLink R_S 3 objectInit ∈ TB := tb_t 60 (by decide +kernel) (by decide +kernel)
theorem sv_L_13 : Sv R_L 13 y_T_desk b_T_desk 2 (some .int) 0 := ⟨Or.inl (tb_t 85 (by decide +kernel) (by decide +kernel)), cd_T_desk, ini_T, by decide +kernel, by decide +kernel, by decide +kernel⟩
theorem sv_T_37 : Sv R_T 37 y_K_init b_K_init 2 none 1 := ⟨Or.inr ⟨"ToldFacts", nw_t 90 (by decide +kernel) (by decide +kernel)⟩, cd_K_init, ini_K, by decide +kernel, by decide +kernel, by decide +kernel⟩
theorem lk_K_3 : Cond.methodLink R_K 3 objectInit ∈ TB := tb_t 93 (by decide +kernel) (by decide +kernel)
theorem sv_K_11 : Sv R_K 11 y_S_init b_S_init 1 none 0 := ⟨Or.inr ⟨"ToldFacts", nw_t 95 (by decide +kernel) (by decide +kernel)⟩, cd_S_init, ini_S, by decide +kernel, by decide +kernel, by decide +kernel⟩
theorem sv_L_20 : Sv R_L 20 y_T_tell b_T_tell 9 (some .int) 5 := ⟨Or.inl (tb_t 117 (by decide +kernel) (by decide +kernel)), cd_T_tell, ini_T, by decide +kernel, by decide +kernel, by decide +kernel⟩
theorem sv_T_40 : Sv R_T 40 y_T_deskAt b_T_deskAt 2 (some (.object "ToldFacts$Desk")) 1 := ⟨Or.inl (tb_t 121 (by decide +kernel) (by decide +kernel)), cd_T_deskAt, ini_T, by decide +kernel, by decide +kernel, by decide +kernel⟩
theorem sv_T_44 : Sv R_T 44 y_T_areThingAndKind b_T_areThingAndKind 2 (some .boolean) 2 := ⟨Or.inl (tb_t 125 (by decide +kernel) (by decide +kernel)), cd_T_areThingAndKind, ini_T, by decide +kernel, by decide +kernel, by decide +kernel⟩
theorem sv_T_50 : Sv R_T 50 y_S_clear b_S_clear 2 none 0 := ⟨Or.inr ⟨"ToldFacts", nw_t 129 (by decide +kernel) (by decide +kernel)⟩, cd_S_clear, ini_S, by decide +kernel, by decide +kernel, by decide +kernel⟩
theorem sv_T_53 : Sv R_T 53 y_T_spotOf b_T_spotOf 3 (some .int) 3 := ⟨Or.inl (tb_t 133 (by decide +kernel) (by decide +kernel)), cd_T_spotOf, ini_T, by decide +kernel, by decide +kernel, by decide +kernel⟩
theorem sv_T_57 : Sv R_T 57 y_T_tellReplacing b_T_tellReplacing 8 (some .int) 4 := ⟨Or.inl (tb_t 137 (by decide +kernel) (by decide +kernel)), cd_T_tellReplacing, ini_T, by decide +kernel, by decide +kernel, by decide +kernel⟩
theorem sv_T_165 : Sv R_T 165 y_K_nextNumber b_K_nextNumber 1 (some .int) 0 := ⟨Or.inr ⟨"ToldFacts", nw_t 141 (by decide +kernel) (by decide +kernel)⟩, cd_K_nextNumber, ini_K, by decide +kernel, by decide +kernel, by decide +kernel⟩
theorem sv_T_168 : Sv R_T 168 y_K_nextTime b_K_nextTime 1 (some .int) 0 := ⟨Or.inr ⟨"ToldFacts", nw_t 145 (by decide +kernel) (by decide +kernel)⟩, cd_K_nextTime, ini_K, by decide +kernel, by decide +kernel, by decide +kernel⟩
theorem sv_T_171 : Sv R_T 171 y_A_append b_A_append 9 (some .int) 5 := ⟨Or.inr ⟨"ToldFacts", nw_t 149 (by decide +kernel) (by decide +kernel)⟩, cd_A_append, ini_A, by decide +kernel, by decide +kernel, by decide +kernel⟩
theorem sv_A_40 : Sv R_A 40 y_S_has b_S_has 2 (some .boolean) 1 := ⟨Or.inr ⟨"ToldFacts", nw_t 153 (by decide +kernel) (by decide +kernel)⟩, cd_S_has, ini_S, by decide +kernel, by decide +kernel, by decide +kernel⟩
theorem sv_S_15 : Sv R_S 15 y_S_isPlace b_S_isPlace 1 (some .boolean) 1 := ⟨Or.inl (tb_t 157 (by decide +kernel) (by decide +kernel)), cd_S_isPlace, ini_S, by decide +kernel, by decide +kernel, by decide +kernel⟩
theorem sv_A_44 : Sv R_A 44 y_A_insertByKey b_A_insertByKey 4 none 3 := ⟨Or.inl (tb_t 160 (by decide +kernel) (by decide +kernel)), cd_A_insertByKey, ini_A, by decide +kernel, by decide +kernel, by decide +kernel⟩
theorem sv_T_175 : Sv R_T 175 y_K_hear b_K_hear 2 none 1 := ⟨Or.inr ⟨"ToldFacts", nw_t 163 (by decide +kernel) (by decide +kernel)⟩, cd_K_hear, ini_K, by decide +kernel, by decide +kernel, by decide +kernel⟩
theorem sv_K_34 : Sv R_K 34 y_S_add b_S_add 2 none 1 := ⟨Or.inr ⟨"ToldFacts", nw_t 167 (by decide +kernel) (by decide +kernel)⟩, cd_S_add, ini_S, by decide +kernel, by decide +kernel, by decide +kernel⟩
theorem sv_L_25 : Sv R_L 25 y_T_correct b_T_correct 7 (some .int) 3 := ⟨Or.inl (tb_t 171 (by decide +kernel) (by decide +kernel)), cd_T_correct, ini_T, by decide +kernel, by decide +kernel, by decide +kernel⟩
theorem sv_T_61 : Sv R_T 61 y_A_withNumber b_A_withNumber 3 (some .int) 1 := ⟨Or.inr ⟨"ToldFacts", nw_t 175 (by decide +kernel) (by decide +kernel)⟩, cd_A_withNumber, ini_A, by decide +kernel, by decide +kernel, by decide +kernel⟩
theorem sv_T_68 : Sv R_T 68 y_A_standsAmong b_A_standsAmong 4 (some .boolean) 2 := ⟨Or.inr ⟨"ToldFacts", nw_t 179 (by decide +kernel) (by decide +kernel)⟩, cd_A_standsAmong, ini_A, by decide +kernel, by decide +kernel, by decide +kernel⟩
theorem sv_T_72 : Sv R_T 72 y_S_add b_S_add 2 none 1 := ⟨Or.inr ⟨"ToldFacts", nw_t 183 (by decide +kernel) (by decide +kernel)⟩, cd_S_add, ini_S, by decide +kernel, by decide +kernel, by decide +kernel⟩
theorem sv_L_30 : Sv R_L 30 y_T_join b_T_join 4 (some .int) 2 := ⟨Or.inl (tb_t 184 (by decide +kernel) (by decide +kernel)), cd_T_join, ini_T, by decide +kernel, by decide +kernel, by decide +kernel⟩
theorem sv_T_78 : Sv R_T 78 y_T_joined b_T_joined 5 (some (.object "ToldFacts$Desk")) 2 := ⟨Or.inl (tb_t 188 (by decide +kernel) (by decide +kernel)), cd_T_joined, ini_T, by decide +kernel, by decide +kernel, by decide +kernel⟩
theorem sv_T_161 : Sv R_T 161 y_K_learnFrom b_K_learnFrom 2 none 1 := ⟨Or.inr ⟨"ToldFacts", nw_t 192 (by decide +kernel) (by decide +kernel)⟩, cd_K_learnFrom, ini_K, by decide +kernel, by decide +kernel, by decide +kernel⟩
theorem sv_K_38 : Sv R_K 38 y_S_addAll b_S_addAll 3 none 1 := ⟨Or.inr ⟨"ToldFacts", nw_t 196 (by decide +kernel) (by decide +kernel)⟩, cd_S_addAll, ini_S, by decide +kernel, by decide +kernel, by decide +kernel⟩
theorem lk_K_42 : Cond.methodLink R_K 42 Lib.Math.max.name ∈ TB := tb_t 200 (by decide +kernel) (by decide +kernel)
theorem sv_T_82 : Sv R_T 82 y_A_countConflicts b_A_countConflicts 4 (some .int) 1 := ⟨Or.inr ⟨"ToldFacts", nw_t 203 (by decide +kernel) (by decide +kernel)⟩, cd_A_countConflicts, ini_A, by decide +kernel, by decide +kernel, by decide +kernel⟩
theorem sv_A_74 : Sv R_A 74 y_A_isFirstOfSpot b_A_isFirstOfSpot 2 (some .boolean) 1 := ⟨Or.inl (tb_t 207 (by decide +kernel) (by decide +kernel)), cd_A_isFirstOfSpot, ini_A, by decide +kernel, by decide +kernel, by decide +kernel⟩
theorem sv_A_77 : Sv R_A 77 y_A_isConflictFrom b_A_isConflictFrom 7 (some .boolean) 2 := ⟨Or.inl (tb_t 211 (by decide +kernel) (by decide +kernel)), cd_A_isConflictFrom, ini_A, by decide +kernel, by decide +kernel, by decide +kernel⟩
theorem sv_A_54 : Sv R_A 54 y_A_standsAmong b_A_standsAmong 4 (some .boolean) 2 := ⟨Or.inl (tb_t 215 (by decide +kernel) (by decide +kernel)), cd_A_standsAmong, ini_A, by decide +kernel, by decide +kernel, by decide +kernel⟩
theorem sv_L_35 : Sv R_L 35 y_T_known b_T_known 10 (some .long) 5 := ⟨Or.inl (tb_t 216 (by decide +kernel) (by decide +kernel)), cd_T_known, ini_T, by decide +kernel, by decide +kernel, by decide +kernel⟩
theorem sv_T_88 : Sv R_T 88 y_A_pickToldBy b_A_pickToldBy 6 none 3 := ⟨Or.inr ⟨"ToldFacts", nw_t 221 (by decide +kernel) (by decide +kernel)⟩, cd_A_pickToldBy, ini_A, by decide +kernel, by decide +kernel, by decide +kernel⟩
theorem sv_A_51 : Sv R_A 51 y_S_clear b_S_clear 2 none 0 := ⟨Or.inr ⟨"ToldFacts", nw_t 225 (by decide +kernel) (by decide +kernel)⟩, cd_S_clear, ini_S, by decide +kernel, by decide +kernel, by decide +kernel⟩
theorem sv_A_58 : Sv R_A 58 y_S_add b_S_add 2 none 1 := ⟨Or.inr ⟨"ToldFacts", nw_t 226 (by decide +kernel) (by decide +kernel)⟩, cd_S_add, ini_S, by decide +kernel, by decide +kernel, by decide +kernel⟩
theorem sv_T_92 : Sv R_T 92 y_A_latestStanding b_A_latestStanding 9 (some .int) 4 := ⟨Or.inr ⟨"ToldFacts", nw_t 227 (by decide +kernel) (by decide +kernel)⟩, cd_A_latestStanding, ini_A, by decide +kernel, by decide +kernel, by decide +kernel⟩
theorem sv_A_67 : Sv R_A 67 y_T_dayOf b_T_dayOf 1 (some .int) 1 := ⟨Or.inr ⟨"ToldFacts", nw_t 232 (by decide +kernel) (by decide +kernel)⟩, cd_T_dayOf, ini_T, by decide +kernel, by decide +kernel, by decide +kernel⟩
theorem sv_A_70 : Sv R_A 70 y_A_isLater b_A_isLater 3 (some .boolean) 2 := ⟨Or.inl (tb_t 235 (by decide +kernel) (by decide +kernel)), cd_A_isLater, ini_A, by decide +kernel, by decide +kernel, by decide +kernel⟩
theorem sv_L_40 : Sv R_L 40 y_T_conflict b_T_conflict 6 (some .int) 3 := ⟨Or.inl (tb_t 239 (by decide +kernel) (by decide +kernel)), cd_T_conflict, ini_T, by decide +kernel, by decide +kernel, by decide +kernel⟩
theorem sv_T_100 : Sv R_T 100 y_A_conflictSpot b_A_conflictSpot 7 (some .int) 3 := ⟨Or.inr ⟨"ToldFacts", nw_t 243 (by decide +kernel) (by decide +kernel)⟩, cd_A_conflictSpot, ini_A, by decide +kernel, by decide +kernel, by decide +kernel⟩
theorem sv_T_104 : Sv R_T 104 y_A_pickStanding b_A_pickStanding 5 none 3 := ⟨Or.inr ⟨"ToldFacts", nw_t 247 (by decide +kernel) (by decide +kernel)⟩, cd_A_pickStanding, ini_A, by decide +kernel, by decide +kernel, by decide +kernel⟩
theorem sv_T_108 : Sv R_T 108 y_T_thingOf b_T_thingOf 1 (some .int) 1 := ⟨Or.inl (tb_t 251 (by decide +kernel) (by decide +kernel)), cd_T_thingOf, ini_T, by decide +kernel, by decide +kernel, by decide +kernel⟩
theorem sv_T_111 : Sv R_T 111 y_T_kindOf b_T_kindOf 1 (some .int) 1 := ⟨Or.inl (tb_t 254 (by decide +kernel) (by decide +kernel)), cd_T_kindOf, ini_T, by decide +kernel, by decide +kernel, by decide +kernel⟩
theorem sv_T_114 : Sv R_T 114 y_T_dayOf b_T_dayOf 1 (some .int) 1 := ⟨Or.inl (tb_t 257 (by decide +kernel) (by decide +kernel)), cd_T_dayOf, ini_T, by decide +kernel, by decide +kernel, by decide +kernel⟩
theorem sv_T_117 : Sv R_T 117 y_S_size b_S_size 3 (some .int) 0 := ⟨Or.inr ⟨"ToldFacts", nw_t 258 (by decide +kernel) (by decide +kernel)⟩, cd_S_size, ini_S, by decide +kernel, by decide +kernel, by decide +kernel⟩
theorem sv_S_19 : Sv R_S 19 y_J_bitCount b_J_bitCount 2 (some .int) 1 := ⟨Or.inl (tb_t 262 (by decide +kernel) (by decide +kernel)), cd_J_bitCount, ini_J, by decide +kernel, by decide +kernel, by decide +kernel⟩
theorem sv_T_121 : Sv R_T 121 y_A_inOrder b_A_inOrder 6 (some .int) 2 := ⟨Or.inr ⟨"ToldFacts", nw_t 268 (by decide +kernel) (by decide +kernel)⟩, cd_A_inOrder, ini_A, by decide +kernel, by decide +kernel, by decide +kernel⟩
theorem sv_T_125 : Sv R_T 125 y_T_numberOrNone b_T_numberOrNone 2 (some .int) 1 := ⟨Or.inl (tb_t 272 (by decide +kernel) (by decide +kernel)), cd_T_numberOrNone, ini_T, by decide +kernel, by decide +kernel, by decide +kernel⟩
theorem sv_L_45 : Sv R_L 45 y_T_settle b_T_settle 8 (some .int) 4 := ⟨Or.inl (tb_t 276 (by decide +kernel) (by decide +kernel)), cd_T_settle, ini_T, by decide +kernel, by decide +kernel, by decide +kernel⟩
theorem sv_L_50 : Sv R_L 50 y_T_equal b_T_equal 5 (some .boolean) 2 := ⟨Or.inl (tb_t 281 (by decide +kernel) (by decide +kernel)), cd_T_equal, ini_T, by decide +kernel, by decide +kernel, by decide +kernel⟩
theorem sv_T_129 : Sv R_T 129 y_S_isSameAs b_S_isSameAs 3 (some .boolean) 1 := ⟨Or.inr ⟨"ToldFacts", nw_t 285 (by decide +kernel) (by decide +kernel)⟩, cd_S_isSameAs, ini_S, by decide +kernel, by decide +kernel, by decide +kernel⟩
theorem sv_L_55 : Sv R_L 55 y_T_batch b_T_batch 4 (some .int) 1 := ⟨Or.inl (tb_t 289 (by decide +kernel) (by decide +kernel)), cd_T_batch, ini_T, by decide +kernel, by decide +kernel, by decide +kernel⟩
theorem sv_L_60 : Sv R_L 60 y_T_endBatch b_T_endBatch 3 (some .boolean) 1 := ⟨Or.inl (tb_t 293 (by decide +kernel) (by decide +kernel)), cd_T_endBatch, ini_T, by decide +kernel, by decide +kernel, by decide +kernel⟩
theorem sv_T_139 : Sv R_T 139 y_K_learnPending b_K_learnPending 1 none 0 := ⟨Or.inr ⟨"ToldFacts", nw_t 297 (by decide +kernel) (by decide +kernel)⟩, cd_K_learnPending, ini_K, by decide +kernel, by decide +kernel, by decide +kernel⟩
theorem sv_K_48 : Sv R_K 48 y_S_clear b_S_clear 2 none 0 := ⟨Or.inr ⟨"ToldFacts", nw_t 301 (by decide +kernel) (by decide +kernel)⟩, cd_S_clear, ini_S, by decide +kernel, by decide +kernel, by decide +kernel⟩
theorem sv_L_65 : Sv R_L 65 y_T_play b_T_play 7 (some .int) 2 := ⟨Or.inl (tb_t 302 (by decide +kernel) (by decide +kernel)), cd_T_play, ini_T, by decide +kernel, by decide +kernel, by decide +kernel⟩
theorem sv_T_144 : Sv R_T 144 y_W_init b_W_init 3 none 1 := ⟨Or.inr ⟨"ToldFacts", nw_t 308 (by decide +kernel) (by decide +kernel)⟩, cd_W_init, ini_W, by decide +kernel, by decide +kernel, by decide +kernel⟩
theorem lk_W_1 : Cond.methodLink R_W 1 objectInit ∈ TB := tb_t 311 (by decide +kernel) (by decide +kernel)
theorem sv_T_147 : Sv R_T 147 y_T_playTurn b_T_playTurn 7 none 1 := ⟨Or.inl (tb_t 316 (by decide +kernel) (by decide +kernel)), cd_T_playTurn, ini_T, by decide +kernel, by decide +kernel, by decide +kernel⟩
theorem sv_T_178 : Sv R_T 178 y_W_below b_W_below 2 (some .int) 1 := ⟨Or.inr ⟨"ToldFacts", nw_t 320 (by decide +kernel) (by decide +kernel)⟩, cd_W_below, ini_W, by decide +kernel, by decide +kernel, by decide +kernel⟩
theorem sv_T_181 : Sv R_T 181 y_T_tell b_T_tell 9 (some .int) 5 := ⟨Or.inl (tb_t 326 (by decide +kernel) (by decide +kernel)), cd_T_tell, ini_T, by decide +kernel, by decide +kernel, by decide +kernel⟩
theorem sv_T_151 : Sv R_T 151 y_T_counts b_T_counts 3 (some .int) 1 := ⟨Or.inl (tb_t 327 (by decide +kernel) (by decide +kernel)), cd_T_counts, ini_T, by decide +kernel, by decide +kernel, by decide +kernel⟩
theorem sv_L_70 : Sv R_L 70 y_T_find b_T_find 7 (some .int) 4 := ⟨Or.inl (tb_t 331 (by decide +kernel) (by decide +kernel)), cd_T_find, ini_T, by decide +kernel, by decide +kernel, by decide +kernel⟩
theorem sv_T_154 : Sv R_T 154 y_A_pickEqual b_A_pickEqual 7 none 4 := ⟨Or.inr ⟨"ToldFacts", nw_t 335 (by decide +kernel) (by decide +kernel)⟩, cd_A_pickEqual, ini_A, by decide +kernel, by decide +kernel, by decide +kernel⟩
theorem sv_A_62 : Sv R_A 62 y_T_kindOf b_T_kindOf 1 (some .int) 1 := ⟨Or.inr ⟨"ToldFacts", nw_t 339 (by decide +kernel) (by decide +kernel)⟩, cd_T_kindOf, ini_T, by decide +kernel, by decide +kernel, by decide +kernel⟩
theorem sv_L_75 : Sv R_L 75 y_T_counts b_T_counts 3 (some .int) 1 := ⟨Or.inl (tb_t 340 (by decide +kernel) (by decide +kernel)), cd_T_counts, ini_T, by decide +kernel, by decide +kernel, by decide +kernel⟩
theorem sv_L_12 : Sv R_L 12 y_M_init b_M_init 1 none 0 := ⟨Or.inl (tb_t 343 (by decide +kernel) (by decide +kernel)), cd_M_init, ini_M, by decide +kernel, by decide +kernel, by decide +kernel⟩
theorem lk_M_1 : Cond.methodLink R_M 1 objectInit ∈ TB := tb_t 346 (by decide +kernel) (by decide +kernel)
theorem sv_L_17 : Sv R_L 17 y_M_desk b_M_desk 1 (some .int) 0 := ⟨Or.inl (tb_t 404 (by decide +kernel) (by decide +kernel)), cd_M_desk, ini_M, by decide +kernel, by decide +kernel, by decide +kernel⟩
theorem sv_L_24 : Sv R_L 24 y_M_tell b_M_tell 8 (some .int) 5 := ⟨Or.inl (tb_t 408 (by decide +kernel) (by decide +kernel)), cd_M_tell, ini_M, by decide +kernel, by decide +kernel, by decide +kernel⟩
theorem sv_M_62 : Sv R_M 62 y_M_isDesk b_M_isDesk 2 (some .boolean) 1 := ⟨Or.inl (tb_t 412 (by decide +kernel) (by decide +kernel)), cd_M_isDesk, ini_M, by decide +kernel, by decide +kernel, by decide +kernel⟩
theorem sv_M_68 : Sv R_M 68 y_M_add b_M_add 9 (some .int) 5 := ⟨Or.inl (tb_t 417 (by decide +kernel) (by decide +kernel)), cd_M_add, ini_M, by decide +kernel, by decide +kernel, by decide +kernel⟩
theorem sv_L_29 : Sv R_L 29 y_M_correct b_M_correct 7 (some .int) 3 := ⟨Or.inl (tb_t 421 (by decide +kernel) (by decide +kernel)), cd_M_correct, ini_M, by decide +kernel, by decide +kernel, by decide +kernel⟩
theorem sv_M_76 : Sv R_M 76 y_M_place b_M_place 3 (some .int) 1 := ⟨Or.inl (tb_t 425 (by decide +kernel) (by decide +kernel)), cd_M_place, ini_M, by decide +kernel, by decide +kernel, by decide +kernel⟩
theorem sv_M_80 : Sv R_M 80 y_M_look b_M_look 4 none 1 := ⟨Or.inl (tb_t 429 (by decide +kernel) (by decide +kernel)), cd_M_look, ini_M, by decide +kernel, by decide +kernel, by decide +kernel⟩
theorem sv_L_34 : Sv R_L 34 y_M_join b_M_join 4 (some .int) 2 := ⟨Or.inl (tb_t 433 (by decide +kernel) (by decide +kernel)), cd_M_join, ini_M, by decide +kernel, by decide +kernel, by decide +kernel⟩
theorem sv_M_91 : Sv R_M 91 y_M_conflicts b_M_conflicts 4 (some .int) 1 := ⟨Or.inl (tb_t 437 (by decide +kernel) (by decide +kernel)), cd_M_conflicts, ini_M, by decide +kernel, by decide +kernel, by decide +kernel⟩
theorem sv_M_88 : Sv R_M 88 y_M_isFirstOfConflict b_M_isFirstOfConflict 4 (some .boolean) 1 := ⟨Or.inl (tb_t 441 (by decide +kernel) (by decide +kernel)), cd_M_isFirstOfConflict, ini_M, by decide +kernel, by decide +kernel, by decide +kernel⟩
theorem sv_M_84 : Sv R_M 84 y_M_areOne b_M_areOne 3 (some .boolean) 2 := ⟨Or.inl (tb_t 445 (by decide +kernel) (by decide +kernel)), cd_M_areOne, ini_M, by decide +kernel, by decide +kernel, by decide +kernel⟩
theorem sv_L_44 : Sv R_L 44 y_M_conflict b_M_conflict 7 (some .int) 3 := ⟨Or.inl (tb_t 449 (by decide +kernel) (by decide +kernel)), cd_M_conflict, ini_M, by decide +kernel, by decide +kernel, by decide +kernel⟩
theorem sv_M_94 : Sv R_M 94 y_M_isBefore b_M_isBefore 3 (some .boolean) 2 := ⟨Or.inl (tb_t 453 (by decide +kernel) (by decide +kernel)), cd_M_isBefore, ini_M, by decide +kernel, by decide +kernel, by decide +kernel⟩
theorem sv_M_97 : Sv R_M 97 y_M_standing b_M_standing 8 (some .int) 2 := ⟨Or.inl (tb_t 457 (by decide +kernel) (by decide +kernel)), cd_M_standing, ini_M, by decide +kernel, by decide +kernel, by decide +kernel⟩
theorem sv_L_49 : Sv R_L 49 y_M_settle b_M_settle 11 (some .int) 4 := ⟨Or.inl (tb_t 461 (by decide +kernel) (by decide +kernel)), cd_M_settle, ini_M, by decide +kernel, by decide +kernel, by decide +kernel⟩
theorem sv_L_39 : Sv R_L 39 y_M_known b_M_known 11 (some .long) 5 := ⟨Or.inl (tb_t 465 (by decide +kernel) (by decide +kernel)), cd_M_known, ini_M, by decide +kernel, by decide +kernel, by decide +kernel⟩
theorem sv_M_105 : Sv R_M 105 y_M_stands b_M_stands 7 (some .boolean) 3 := ⟨Or.inl (tb_t 470 (by decide +kernel) (by decide +kernel)), cd_M_stands, ini_M, by decide +kernel, by decide +kernel, by decide +kernel⟩
theorem sv_M_72 : Sv R_M 72 y_M_isKnown b_M_isKnown 5 (some .boolean) 3 := ⟨Or.inl (tb_t 474 (by decide +kernel) (by decide +kernel)), cd_M_isKnown, ini_M, by decide +kernel, by decide +kernel, by decide +kernel⟩
theorem sv_L_54 : Sv R_L 54 y_M_equal b_M_equal 5 (some .boolean) 2 := ⟨Or.inl (tb_t 478 (by decide +kernel) (by decide +kernel)), cd_M_equal, ini_M, by decide +kernel, by decide +kernel, by decide +kernel⟩
theorem sv_L_74 : Sv R_L 74 y_M_find b_M_find 9 (some .int) 4 := ⟨Or.inl (tb_t 482 (by decide +kernel) (by decide +kernel)), cd_M_find, ini_M, by decide +kernel, by decide +kernel, by decide +kernel⟩
theorem sv_L_78 : Sv R_L 78 y_M_counts b_M_counts 4 (some .int) 1 := ⟨Or.inl (tb_t 486 (by decide +kernel) (by decide +kernel)), cd_M_counts, ini_M, by decide +kernel, by decide +kernel, by decide +kernel⟩
theorem sv_L_59 : Sv R_L 59 y_M_batch b_M_batch 2 (some .int) 1 := ⟨Or.inl (tb_t 490 (by decide +kernel) (by decide +kernel)), cd_M_batch, ini_M, by decide +kernel, by decide +kernel, by decide +kernel⟩
theorem sv_L_64 : Sv R_L 64 y_M_endBatch b_M_endBatch 4 (some .boolean) 1 := ⟨Or.inl (tb_t 494 (by decide +kernel) (by decide +kernel)), cd_M_endBatch, ini_M, by decide +kernel, by decide +kernel, by decide +kernel⟩
theorem sv_L_69 : Sv R_L 69 y_M_play b_M_play 11 (some .int) 2 := ⟨Or.inl (tb_t 498 (by decide +kernel) (by decide +kernel)), cd_M_play, ini_M, by decide +kernel, by decide +kernel, by decide +kernel⟩
theorem sv_M_119 : Sv R_M 119 y_M_draw b_M_draw 2 (some .int) 1 := ⟨Or.inl (tb_t 502 (by decide +kernel) (by decide +kernel)), cd_M_draw, ini_M, by decide +kernel, by decide +kernel, by decide +kernel⟩
theorem sv_M_122 : Sv R_M 122 y_M_tell b_M_tell 8 (some .int) 5 := ⟨Or.inl (tb_t 508 (by decide +kernel) (by decide +kernel)), cd_M_tell, ini_M, by decide +kernel, by decide +kernel, by decide +kernel⟩
theorem sv_M_125 : Sv R_M 125 y_M_join b_M_join 4 (some .int) 2 := ⟨Or.inl (tb_t 509 (by decide +kernel) (by decide +kernel)), cd_M_join, ini_M, by decide +kernel, by decide +kernel, by decide +kernel⟩
theorem sv_M_128 : Sv R_M 128 y_M_counts b_M_counts 4 (some .int) 1 := ⟨Or.inl (tb_t 510 (by decide +kernel) (by decide +kernel)), cd_M_counts, ini_M, by decide +kernel, by decide +kernel, by decide +kernel⟩
